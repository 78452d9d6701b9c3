set_option maxRecDepth 20000 in
theorem gX11_expect_X4_put : GoodIn wsX11_expect (wsV RX11 201 RX4 yX4_put wsX4_put) := goodIn_app (goodIn_of _ (by decide +kernel)) ggX11_expect_X4_put
set_option maxRecDepth 20000 in
theorem ggX11_judge_X11_isPlayer : GoodIn wsX11_judge wsX11_isPlayer := goodIn_r _ [15] rfl (by decide +kernel)
set_option maxRecDepth 20000 in
theorem gX11_judge_X11_isPlayer : GoodIn wsX11_judge (va_wsS RX11 218 yX11_isPlayer wsX11_isPlayer) := goodIn_app (goodIn_of _ (by decide +kernel)) ggX11_judge_X11_isPlayer
set_option maxRecDepth 20000 in
theorem ggX11_judge_X11_isGood : GoodIn wsX11_judge wsX11_isGood := goodIn_r _ [19, 20, 7, 21, 22, 23, 24, 25, 26, 27, 28, 29, 30, 31, 32, 33, 34, 14, 35, 36, 37, 38, 39, 40, 41, 42, 43, 44, 45, 46, 47, 48, 49, 50, 264, 265, 266, 267, 268, 269, 270, 271, 272, 273, 274, 275, 276, 277, 278, 279, 282, 283, 284, 285, 286, 287, 288, 289, 290, 291, 292, 293, 294, 295, 296] rfl (by decide +kernel)
set_option maxRecDepth 20000 in
theorem gX11_judge_X11_isGood : GoodIn wsX11_judge (wsV RX11 173 RX11 yX11_isGood wsX11_isGood) := goodIn_app (goodIn_of _ (by decide +kernel)) ggX11_judge_X11_isGood
set_option maxRecDepth 20000 in
theorem ggX11_judge_X11_spreadWay : GoodIn wsX11_judge wsX11_spreadWay := goodIn_r _ [54, 20, 7, 21, 8, 55, 56, 57, 25, 58, 59, 27, 28, 60, 61, 62, 63, 64, 65, 66, 67, 68, 69, 70, 71, 72, 73, 74, 75, 76, 77, 78, 79, 80, 81, 82, 83, 84, 85, 29, 30, 31, 32, 33, 34, 14, 35, 36, 37, 38, 39, 40, 41, 42, 43, 44, 45, 46, 47, 48, 49, 50, 86, 87, 88, 89, 90, 91, 92, 93, 94, 95, 96, 97, 264, 265, 266, 267, 268, 269, 270, 271, 272, 273, 274, 275, 276, 277, 278, 279, 282, 283, 284, 285, 280, 281, 286, 287, 288, 289, 290, 291, 292, 293, 294, 295, 296, 297, 298, 299] rfl (by decide +kernel)
set_option maxRecDepth 20000 in
theorem gX11_judge_X11_spreadWay : GoodIn wsX11_judge (wsV RX11 207 RX11 yX11_spreadWay wsX11_spreadWay) := goodIn_app (goodIn_of _ (by decide +kernel)) ggX11_judge_X11_spreadWay
set_option maxRecDepth 20000 in
theorem ggX11_judge_X11_other : GoodIn wsX11_judge wsX11_other := goodIn_r _ [100] rfl (by decide +kernel)
set_option maxRecDepth 20000 in
theorem gX11_judge_X11_other : GoodIn wsX11_judge (va_wsS RX11 225 yX11_other wsX11_other) := goodIn_app (goodIn_of _ (by decide +kernel)) ggX11_judge_X11_other
set_option maxRecDepth 20000 in
theorem ggX11_judge_X6_work : GoodIn wsX11_judge wsX6_work := goodIn_r _ [105, 106, 107, 108, 109, 110, 111, 112, 113, 114, 104, 115, 116, 117, 118, 119, 99, 14, 100, 120, 79, 80, 81, 82, 83, 84, 85, 121, 122, 123, 124, 125, 126, 127, 128, 129, 130, 131, 132, 41, 133, 134, 135, 136, 137, 90, 138, 139, 140, 141, 91, 92, 93, 94, 142, 143, 144, 145, 146, 147, 148, 149, 150, 151, 152, 153, 154, 155, 156, 157, 158, 159, 160, 161, 162, 163, 164, 165, 166, 167, 168, 169, 170, 171, 172, 173, 174, 175, 176, 177, 178, 179, 180, 181, 182, 183, 184, 185, 72, 73, 74, 186, 76, 77, 282, 283, 284, 285, 286, 287, 288, 289, 290, 291, 292, 293, 300, 301, 302, 303, 304, 280, 281, 297, 298, 299] rfl (by decide +kernel)
set_option maxRecDepth 20000 in
theorem gX11_judge_X6_work : GoodIn wsX11_judge (wsV RX11 229 RX6 yX6_work wsX6_work) := goodIn_app (goodIn_of _ (by decide +kernel)) ggX11_judge_X6_work
set_option maxRecDepth 20000 in
theorem ggX11_judge_X6_worth : GoodIn wsX11_judge wsX6_worth := goodIn_r _ [190, 109, 300, 301, 302, 303, 304] rfl (by decide +kernel)
set_option maxRecDepth 20000 in
theorem gX11_judge_X6_worth : GoodIn wsX11_judge (wsV RX11 232 RX6 yX6_worth wsX6_worth) := goodIn_app (goodIn_of _ (by decide +kernel)) ggX11_judge_X6_worth
set_option maxRecDepth 20000 in
theorem ggX11_judge_X4_put : GoodIn wsX11_judge wsX4_put := goodIn_r _ [195, 196, 197, 198, 199, 200, 201, 202, 147, 148, 81, 149, 84, 85, 131, 132, 41, 133, 150, 151, 152, 153, 83, 203, 87, 88, 89, 90, 91, 92, 93, 94, 204, 79, 80, 82, 205, 206, 207, 194, 208, 209, 210, 211, 212, 213, 214, 215, 216, 217, 218, 219, 220, 221, 222, 223, 224, 225, 134, 135, 136, 137, 226, 227, 228, 229, 230, 231, 232, 233, 159, 160, 161, 234, 163, 164, 165, 235, 236, 237, 238, 239, 240, 241, 242, 243, 244, 245, 246, 247, 248, 249, 250, 251, 252, 253, 254, 255, 256, 257, 258, 259, 260, 261, 262, 263, 305, 306, 307, 308, 309, 310, 297, 298, 299, 311, 312, 313] rfl (by decide +kernel)
set_option maxRecDepth 20000 in
theorem gX11_judge_X4_put : GoodIn wsX11_judge (wsV RX11 201 RX4 yX4_put wsX4_put) := goodIn_app (goodIn_of _ (by decide +kernel)) ggX11_judge_X4_put
set_option maxRecDepth 20000 in
theorem ggL_tell_X11_tell : GoodIn wsL_tell wsX11_tell := goodIn_ca (goodIn_ca (goodIn_r _ [7, 8, 9, 10, 11, 12, 13, 14, 15, 6, 16, 17, 18, 19, 20, 21, 22, 23, 24, 25, 26, 27, 28, 29, 30, 31, 32, 33, 34, 35, 36, 37, 38, 39, 40, 41, 42, 43, 44, 45, 46, 47, 48, 49, 50, 51, 52, 53, 54, 55, 56, 57, 58, 59, 60, 61, 62, 63, 64, 65, 66, 67, 68, 69, 70, 71, 72, 73, 74, 75, 76, 77, 78, 79, 80, 81, 82, 83] rfl (by decide +kernel)) (goodIn_sub (fun _ h => List.mem_cons_of_mem _ (List.mem_append_left _ (List.mem_append_right _ h))) (by decide +kernel))) (goodIn_sub (fun _ h => List.mem_cons_of_mem _ (List.mem_append_right _ h)) (by decide +kernel))
set_option maxRecDepth 20000 in
theorem gL_tell_X11_tell : GoodIn wsL_tell (wsV RL 7 RX11 yX11_tell wsX11_tell) := goodIn_app (goodIn_of _ (by decide +kernel)) ggL_tell_X11_tell
theorem D_dL_tell_0 : (decode cL_tell 0 = .ok (.aload_n 0, 1)) ∧ (decode cL_tell 1 = .ok (.iload_n 1, 1)) ∧ (decode cL_tell 2 = .ok (.iload_n 2, 1)) ∧ (decode cL_tell 3 = .ok (.iload_n 3, 1)) ∧ (decode cL_tell 4 = .ok (.iload 4, 2)) ∧ (decode cL_tell 6 = .ok (.iload 5, 2)) ∧ (decode cL_tell 8 = .ok (.invokevirtual 7, 3)) ∧ (decode cL_tell 11 = .ok (.goto 11, 3)) ∧ (decode cL_tell 14 = .ok (.astore 6, 2)) ∧ (decode cL_tell 16 = .ok (.iconst 1, 1)) ∧ (decode cL_tell 17 = .ok (.ireturn, 1)) ∧ (decode cL_tell 18 = .ok (.astore 6, 2)) ∧ (decode cL_tell 20 = .ok (.iconst 2, 1)) ∧ (decode cL_tell 21 = .ok (.ireturn, 1)) ∧ (decode cL_tell 22 = .ok (.iconst 0, 1)) ∧ (decode cL_tell 23 = .ok (.ireturn, 1)) := by decide +kernel
theorem dL_tell_0 : decode cL_tell 0 = .ok (.aload_n 0, 1) := D_dL_tell_0.1
theorem dL_tell_1 : decode cL_tell 1 = .ok (.iload_n 1, 1) := D_dL_tell_0.2.1
theorem dL_tell_2 : decode cL_tell 2 = .ok (.iload_n 2, 1) := D_dL_tell_0.2.2.1
theorem dL_tell_3 : decode cL_tell 3 = .ok (.iload_n 3, 1) := D_dL_tell_0.2.2.2.1
theorem dL_tell_4 : decode cL_tell 4 = .ok (.iload 4, 2) := D_dL_tell_0.2.2.2.2.1
theorem dL_tell_6 : decode cL_tell 6 = .ok (.iload 5, 2) := D_dL_tell_0.2.2.2.2.2.1
theorem dL_tell_8 : decode cL_tell 8 = .ok (.invokevirtual 7, 3) := D_dL_tell_0.2.2.2.2.2.2.1
theorem dL_tell_11 : decode cL_tell 11 = .ok (.goto 11, 3) := D_dL_tell_0.2.2.2.2.2.2.2.1
theorem dL_tell_14 : decode cL_tell 14 = .ok (.astore 6, 2) := D_dL_tell_0.2.2.2.2.2.2.2.2.1
theorem dL_tell_16 : decode cL_tell 16 = .ok (.iconst 1, 1) := D_dL_tell_0.2.2.2.2.2.2.2.2.2.1
theorem dL_tell_17 : decode cL_tell 17 = .ok (.ireturn, 1) := D_dL_tell_0.2.2.2.2.2.2.2.2.2.2.1
theorem dL_tell_18 : decode cL_tell 18 = .ok (.astore 6, 2) := D_dL_tell_0.2.2.2.2.2.2.2.2.2.2.2.1
theorem dL_tell_20 : decode cL_tell 20 = .ok (.iconst 2, 1) := D_dL_tell_0.2.2.2.2.2.2.2.2.2.2.2.2.1
theorem dL_tell_21 : decode cL_tell 21 = .ok (.ireturn, 1) := D_dL_tell_0.2.2.2.2.2.2.2.2.2.2.2.2.2.1
theorem dL_tell_22 : decode cL_tell 22 = .ok (.iconst 0, 1) := D_dL_tell_0.2.2.2.2.2.2.2.2.2.2.2.2.2.2.1
theorem dL_tell_23 : decode cL_tell 23 = .ok (.ireturn, 1) := D_dL_tell_0.2.2.2.2.2.2.2.2.2.2.2.2.2.2.2
set_option maxRecDepth 20000 in
theorem ggL_solve_X11_solve : GoodIn wsL_solve wsX11_solve := goodIn_ca (goodIn_r _ [6, 7, 8, 9, 10, 11, 12, 13, 14, 15, 16, 17, 18, 19, 20, 21, 22, 23, 24, 25, 26, 27, 28, 29, 30, 31, 32, 33, 34, 35, 36, 37, 38, 39, 40, 41, 42, 43, 44, 45, 46, 47, 48, 49, 50, 51, 52, 53, 54, 55, 56, 57, 58, 59, 60, 61, 62, 63, 64, 65, 66, 67, 68, 69, 70, 71, 72, 73, 74, 75, 76, 77, 78, 79, 80, 81, 82, 83, 84, 85, 86, 87, 88, 89, 90, 91, 92, 93, 94, 95, 96, 97, 98, 99, 100, 101, 102, 103, 104, 105, 106, 107, 108, 109, 110, 111, 112, 113, 114, 115, 116, 117, 118, 119, 120, 121, 122, 123, 124, 125, 126, 127, 128, 129, 130, 131, 132, 133, 134, 135, 136, 137, 138, 139, 140, 141, 142, 143, 144, 145, 146, 147, 148, 149, 150, 151, 152, 153, 154, 155, 156, 157, 158, 159, 160, 161, 162, 163, 164, 165, 166, 167, 168, 169, 170, 171, 172, 173, 174, 175, 176, 177, 178, 179, 180, 181, 182, 183, 184, 185, 186, 187, 188, 189, 190, 191, 192, 193, 194, 195, 196, 197, 198, 199, 200, 201, 202, 203, 204, 205, 206, 207, 208, 209, 210, 211, 212, 213, 214, 215, 216, 217, 218, 219, 220, 221, 222, 223, 224, 225, 226, 227, 228, 229, 230, 231, 232, 233, 234, 235, 236, 237, 238, 239, 240, 241, 242, 243, 244, 245, 246, 247, 248, 249, 250, 251, 252, 253, 254, 255, 256, 257, 258, 259, 260, 261, 262, 263, 264, 265, 266, 267, 268, 269, 270, 271, 272, 273, 274, 275, 276, 277, 278, 279, 280, 281, 282, 283, 284, 285, 286, 287, 288, 289, 290, 291, 292, 293, 294, 295, 296, 297, 298, 299, 300, 301, 302, 303, 304, 305, 306, 307, 308, 309, 310, 311, 312, 313, 314, 315, 316, 317, 318, 319, 320, 321, 322, 323, 324, 325, 326, 327] rfl (by decide +kernel)) (goodIn_sub (fun _ h => List.mem_cons_of_mem _ (List.mem_append_right _ h)) (by decide +kernel))
set_option maxRecDepth 20000 in
theorem gL_solve_X11_solve : GoodIn wsL_solve (wsV RL 17 RX11 yX11_solve wsX11_solve) := goodIn_app (goodIn_of _ (by decide +kernel)) ggL_solve_X11_solve
theorem D_dL_solve_0 : (decode cL_solve 0 = .ok (.aload_n 0, 1)) ∧ (decode cL_solve 1 = .ok (.invokevirtual 17, 3)) ∧ (decode cL_solve 4 = .ok (.goto 6, 3)) ∧ (decode cL_solve 7 = .ok (.astore_n 1, 1)) ∧ (decode cL_solve 8 = .ok (.iconst 1, 1)) ∧ (decode cL_solve 9 = .ok (.ireturn, 1)) ∧ (decode cL_solve 10 = .ok (.iconst 0, 1)) ∧ (decode cL_solve 11 = .ok (.ireturn, 1)) := by decide +kernel
theorem dL_solve_0 : decode cL_solve 0 = .ok (.aload_n 0, 1) := D_dL_solve_0.1
theorem dL_solve_1 : decode cL_solve 1 = .ok (.invokevirtual 17, 3) := D_dL_solve_0.2.1
theorem dL_solve_4 : decode cL_solve 4 = .ok (.goto 6, 3) := D_dL_solve_0.2.2.1
theorem dL_solve_7 : decode cL_solve 7 = .ok (.astore_n 1, 1) := D_dL_solve_0.2.2.2.1
theorem dL_solve_8 : decode cL_solve 8 = .ok (.iconst 1, 1) := D_dL_solve_0.2.2.2.2.1
theorem dL_solve_9 : decode cL_solve 9 = .ok (.ireturn, 1) := D_dL_solve_0.2.2.2.2.2.1
theorem dL_solve_10 : decode cL_solve 10 = .ok (.iconst 0, 1) := D_dL_solve_0.2.2.2.2.2.2.1
theorem dL_solve_11 : decode cL_solve 11 = .ok (.ireturn, 1) := D_dL_solve_0.2.2.2.2.2.2.2
set_option maxRecDepth 20000 in
theorem ggL_expect_X11_expect : GoodIn wsL_expect wsX11_expect := goodIn_ca (goodIn_r _ [6, 7, 8, 9, 10, 11, 12, 13, 14, 15, 16, 17, 18, 19, 20, 5, 21, 22, 23, 24, 25, 26, 27, 28, 29, 30, 31, 32, 33, 34, 35, 36, 37, 38, 39, 40, 41, 42, 43, 44, 45, 46, 47, 48, 49, 50, 51, 52, 53, 54, 55, 56, 57, 58, 59, 60, 61, 62, 63, 64, 65, 66, 67, 68, 69, 70, 71, 72, 73, 74, 75, 76, 77, 78, 79, 80, 81, 82, 83, 84, 85, 86, 87, 88, 89, 90, 91, 92, 93, 94, 95, 96, 97, 98, 99, 100, 101, 102, 103, 104, 105, 106, 107, 108, 109, 110, 111, 112, 113, 114, 115, 116, 117, 118, 119, 120, 121, 122, 123, 124, 125, 126, 127, 128, 129, 130, 131, 132, 133, 134, 135, 136, 137, 138, 139, 140, 141, 142, 143, 144, 145, 146, 147, 148, 149, 150, 151, 152, 153, 154, 155, 156, 157, 158, 159, 160, 161, 162, 163, 164, 165, 166, 167, 168, 169, 170, 171, 172, 173, 174, 175, 176, 177, 178, 179, 180, 181, 182, 183, 184, 185, 186, 187, 188, 189, 190, 191, 192, 193, 194, 195, 196, 197, 198, 199, 200, 201, 202, 203, 204, 205, 206, 207, 208, 209, 210, 211, 212, 213, 214, 215, 216, 217, 218, 219, 220, 221, 222, 223, 224, 225, 226, 227, 228, 229, 230, 231, 232, 233, 234, 235, 236, 237, 238, 239, 240, 241, 242, 243, 244, 245, 246, 247, 248, 249, 250, 251, 252, 253, 254, 255, 256, 257, 258, 259, 260, 261, 262, 263, 264, 265, 266, 267, 268, 269, 270, 271, 272, 273, 274, 275, 276, 277, 278, 279, 280, 281, 282, 283, 284, 285, 286] rfl (by decide +kernel)) (goodIn_sub (fun _ h => List.mem_cons_of_mem _ (List.mem_append_right _ h)) (by decide +kernel))
