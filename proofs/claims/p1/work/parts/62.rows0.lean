set_option maxRecDepth 20000 in
theorem ggX11_tell_X11_isPlaying : GoodIn wsX11_tell wsX11_isPlaying := goodIn_r _ [10, 11, 12, 13, 9, 14, 47, 48, 49, 50, 51, 52, 53, 54, 55, 56, 57, 58, 59, 60, 61, 62] (by decide +kernel) (by decide +kernel)
set_option maxRecDepth 20000 in
theorem gX11_tell_X11_isPlaying : GoodIn wsX11_tell (wsV RX11 125 RX11 yX11_isPlaying wsX11_isPlaying) := goodIn_app (goodIn_of _ (by decide +kernel)) ggX11_tell_X11_isPlaying
set_option maxRecDepth 20000 in
theorem ggX11_judge_X11_isPlayer : GoodIn wsX11_judge wsX11_isPlayer := goodIn_r _ [15] (by decide +kernel) (by decide +kernel)
set_option maxRecDepth 20000 in
theorem gX11_judge_X11_isPlayer : GoodIn wsX11_judge (va_wsS RX11 218 yX11_isPlayer wsX11_isPlayer) := goodIn_app (goodIn_of _ (by decide +kernel)) ggX11_judge_X11_isPlayer
set_option maxRecDepth 20000 in
theorem ggL_tell_X11_tell : GoodIn wsL_tell wsX11_tell := goodIn_ca (goodIn_ca (goodIn_r _ [7, 8, 9, 10, 11, 12, 13, 14, 15, 6, 16, 17, 18, 19, 20, 21, 22, 23, 24, 25, 26, 27, 28, 29, 30, 31, 32, 33, 34, 35, 36, 37, 38, 39, 40, 41, 42, 43, 44, 45, 46, 47, 48, 49, 50, 51, 52, 53, 54, 55, 56, 57, 58, 59, 60, 61, 62, 63, 64, 65, 66, 67, 68, 69, 70, 71, 72, 73, 74, 75, 76, 77, 78, 79, 80, 81, 82, 83] rfl (by decide +kernel)) (goodIn_sub (fun _ h => List.mem_cons_of_mem _ (List.mem_append_left _ (List.mem_append_right _ h))) (by decide +kernel))) (goodIn_sub (fun _ h => List.mem_cons_of_mem _ (List.mem_append_right _ h)) (by decide +kernel))
set_option maxRecDepth 20000 in
theorem gL_tell_X11_tell : GoodIn wsL_tell (wsV RL 7 RX11 yX11_tell wsX11_tell) := goodIn_app (goodIn_of _ (by decide +kernel)) ggL_tell_X11_tell
theorem dL_tell_0 : decode cL_tell 0 = .ok (.aload_n 0, 1) := by decide +kernel
theorem dL_tell_1 : decode cL_tell 1 = .ok (.iload_n 1, 1) := by decide +kernel
theorem dL_tell_2 : decode cL_tell 2 = .ok (.iload_n 2, 1) := by decide +kernel
theorem dL_tell_3 : decode cL_tell 3 = .ok (.iload_n 3, 1) := by decide +kernel
theorem dL_tell_4 : decode cL_tell 4 = .ok (.iload 4, 2) := by decide +kernel
theorem dL_tell_6 : decode cL_tell 6 = .ok (.iload 5, 2) := by decide +kernel
theorem dL_tell_8 : decode cL_tell 8 = .ok (.invokevirtual 7, 3) := by decide +kernel
theorem dL_tell_11 : decode cL_tell 11 = .ok (.goto 11, 3) := by decide +kernel
theorem dL_tell_14 : decode cL_tell 14 = .ok (.astore 6, 2) := by decide +kernel
theorem dL_tell_16 : decode cL_tell 16 = .ok (.iconst 1, 1) := by decide +kernel
theorem dL_tell_17 : decode cL_tell 17 = .ok (.ireturn, 1) := by decide +kernel
theorem dL_tell_18 : decode cL_tell 18 = .ok (.astore 6, 2) := by decide +kernel
theorem dL_tell_20 : decode cL_tell 20 = .ok (.iconst 2, 1) := by decide +kernel
theorem dL_tell_21 : decode cL_tell 21 = .ok (.ireturn, 1) := by decide +kernel
theorem dL_tell_22 : decode cL_tell 22 = .ok (.iconst 0, 1) := by decide +kernel
theorem dL_tell_23 : decode cL_tell 23 = .ok (.ireturn, 1) := by decide +kernel
set_option maxRecDepth 20000 in
theorem ggL_solve_X11_solve : GoodIn wsL_solve wsX11_solve := goodIn_ca (goodIn_r _ [6, 7, 8, 9, 10, 11, 12, 13, 14, 15, 16, 17, 18, 19, 20, 21, 22, 23, 24, 25, 26, 27, 28, 29, 30, 31, 32, 33, 34, 35, 36, 37, 38, 39, 40, 41, 42, 43, 44, 45, 46, 47, 48, 49, 50, 51, 52, 53, 54, 55, 56, 57, 58, 59, 60, 61, 62, 63, 64, 65, 66, 67, 68, 69, 70, 71, 72, 73, 74, 75, 76, 77, 78, 79, 80, 81, 82, 83, 84, 85, 86, 87, 88, 89, 90, 91, 92, 93, 94, 95, 96, 97, 98, 99, 100, 101, 102, 103, 104, 105, 106, 107, 108, 109, 110, 111, 112, 113, 114, 115, 116, 117, 118, 119, 120, 121, 122, 123, 124, 125, 126, 127, 128, 129, 130, 131, 132, 133, 134, 135, 136, 137, 138, 139, 140, 141, 142, 143, 144, 145, 146, 147, 148, 149, 150, 151, 152, 153, 154, 155, 156, 157, 158, 159, 160, 161, 162, 163, 164, 165, 166, 167, 168, 169, 170, 171, 172, 173, 174, 175, 176, 177, 178, 179, 180, 181, 182, 183, 184, 185, 186, 187, 188, 189, 190, 191, 192, 193, 194, 195, 196, 197, 198, 199, 200, 201, 202, 203, 204, 205, 206, 207, 208, 209, 210, 211, 212, 213, 214, 215, 216, 217, 218, 219, 220, 221, 222, 223, 224, 225, 226, 227, 228, 229, 230, 231, 232, 233, 234, 235, 236, 237, 238, 239, 240, 241, 242, 243, 244, 245, 246, 247, 248, 249, 250, 251, 252, 253, 254, 255, 256, 257, 258, 259, 260, 261, 262, 263, 264, 265, 266, 267, 268, 269, 270, 271, 272, 273, 274, 275, 276, 277, 278, 279, 280, 281, 282, 283, 284, 285, 286, 287, 288, 289, 290, 291, 292, 293, 294, 295, 296, 297, 298, 299, 300, 301, 302, 303, 304, 305, 306, 307, 308, 309, 310, 311, 312, 313, 314, 315, 316, 317, 318, 319, 320, 321, 322, 323, 324, 325, 326, 327] rfl (by decide +kernel)) (goodIn_sub (fun _ h => List.mem_cons_of_mem _ (List.mem_append_right _ h)) (by decide +kernel))
set_option maxRecDepth 20000 in
theorem gL_solve_X11_solve : GoodIn wsL_solve (wsV RL 17 RX11 yX11_solve wsX11_solve) := goodIn_app (goodIn_of _ (by decide +kernel)) ggL_solve_X11_solve
theorem dL_solve_0 : decode cL_solve 0 = .ok (.aload_n 0, 1) := by decide +kernel
theorem dL_solve_1 : decode cL_solve 1 = .ok (.invokevirtual 17, 3) := by decide +kernel
theorem dL_solve_4 : decode cL_solve 4 = .ok (.goto 6, 3) := by decide +kernel
theorem dL_solve_7 : decode cL_solve 7 = .ok (.astore_n 1, 1) := by decide +kernel
theorem dL_solve_8 : decode cL_solve 8 = .ok (.iconst 1, 1) := by decide +kernel
theorem dL_solve_9 : decode cL_solve 9 = .ok (.ireturn, 1) := by decide +kernel
theorem dL_solve_10 : decode cL_solve 10 = .ok (.iconst 0, 1) := by decide +kernel
theorem dL_solve_11 : decode cL_solve 11 = .ok (.ireturn, 1) := by decide +kernel
set_option maxRecDepth 20000 in
theorem ggL_expect_X11_expect : GoodIn wsL_expect wsX11_expect := goodIn_ca (goodIn_r _ [6, 7, 8, 9, 10, 11, 12, 13, 14, 15, 16, 17, 18, 19, 20, 5, 21, 22, 23, 24, 25, 26, 27, 28, 29, 30, 31, 32, 33, 34, 35, 36, 37, 38, 39, 40, 41, 42, 43, 44, 45, 46, 47, 48, 49, 50, 51, 52, 53, 54, 55, 56, 57, 58, 59, 60, 61, 62, 63, 64, 65, 66, 67, 68, 69, 70, 71, 72, 73, 74, 75, 76, 77, 78, 79, 80, 81, 82, 83, 84, 85, 86, 87, 88, 89, 90, 91, 92, 93, 94, 95, 96, 97, 98, 99, 100, 101, 102, 103, 104, 105, 106, 107, 108, 109, 110, 111, 112, 113, 114, 115, 116, 117, 118, 119, 120, 121, 122, 123, 124, 125, 126, 127, 128, 129, 130, 131, 132, 133, 134, 135, 136, 137, 138, 139, 140, 141, 142, 143, 144, 145, 146, 147, 148, 149, 150, 151, 152, 153, 154, 155, 156, 157, 158, 159, 160, 161, 162, 163, 164, 165, 166, 167, 168, 169, 170, 171, 172, 173, 174, 175, 176, 177, 178, 179, 180, 181, 182, 183, 184, 185, 186, 187, 188, 189, 190, 191, 192, 193, 194, 195, 196, 197, 198, 199, 200, 201, 202, 203, 204, 205, 206, 207, 208, 209, 210, 211, 212, 213, 214, 215, 216, 217, 218, 219, 220, 221, 222, 223, 224, 225, 226, 227, 228, 229, 230, 231, 232, 233, 234, 235, 236, 237, 238, 239, 240, 241, 242, 243, 244, 245, 246, 247, 248, 249, 250, 251, 252, 253, 254, 255, 256, 257, 258, 259, 260, 261, 262, 263, 264, 265, 266, 267, 268, 269, 270, 271, 272, 273, 274, 275, 276, 277, 278, 279, 280, 281, 282, 283, 284, 285, 286] rfl (by decide +kernel)) (goodIn_sub (fun _ h => List.mem_cons_of_mem _ (List.mem_append_right _ h)) (by decide +kernel))
set_option maxRecDepth 20000 in
theorem gL_expect_X11_expect : GoodIn wsL_expect (wsV RL 22 RX11 yX11_expect wsX11_expect) := goodIn_app (goodIn_of _ (by decide +kernel)) ggL_expect_X11_expect
theorem dL_expect_0 : decode cL_expect 0 = .ok (.aload_n 0, 1) := by decide +kernel
theorem dL_expect_1 : decode cL_expect 1 = .ok (.invokevirtual 22, 3) := by decide +kernel
theorem dL_expect_4 : decode cL_expect 4 = .ok (.goto 6, 3) := by decide +kernel
theorem dL_expect_7 : decode cL_expect 7 = .ok (.astore_n 1, 1) := by decide +kernel
theorem dL_expect_8 : decode cL_expect 8 = .ok (.iconst 1, 1) := by decide +kernel
theorem dL_expect_9 : decode cL_expect 9 = .ok (.ireturn, 1) := by decide +kernel
theorem dL_expect_10 : decode cL_expect 10 = .ok (.iconst 0, 1) := by decide +kernel
theorem dL_expect_11 : decode cL_expect 11 = .ok (.ireturn, 1) := by decide +kernel
set_option maxRecDepth 20000 in
theorem ggL_judge_X11_judge : GoodIn wsL_judge wsX11_judge := goodIn_ca (goodIn_ca (goodIn_r _ [7, 8, 9, 10, 11, 12, 13, 14, 15, 16, 17, 18, 19, 20, 6, 21, 22, 23, 24, 25, 26, 27, 28, 29, 30, 31, 32, 33, 34, 35, 36, 37, 38, 39, 40, 41, 42, 43, 44, 45, 46, 47, 48, 49, 50, 51, 52, 53, 54, 55, 56, 57, 58, 59, 60, 61, 62, 63, 64, 65, 66, 67, 68, 69, 70, 71, 72, 73, 74, 75, 76, 77, 78, 79, 80, 81, 82, 83, 84, 85, 86, 87, 88, 89, 90, 91, 92, 93, 94, 95, 96, 97, 98, 99, 100, 101, 102, 103, 104, 105, 106, 107, 108, 109, 110, 111, 112, 113, 114, 115, 116, 117, 118, 119, 120, 121, 122, 123, 124, 125, 126, 127, 128, 129, 130, 131, 132, 133, 134, 135, 136, 137, 138, 139, 140, 141, 142, 143, 144, 145, 146, 147, 148, 149, 150, 151, 152, 153, 154, 155, 156, 157, 158, 159, 160, 161, 162, 163, 164, 165, 166, 167, 168, 169, 170, 171, 172, 173, 174, 175, 176, 177, 178, 179, 180, 181, 182, 183, 184, 185, 186, 187, 188, 189, 190, 191, 192, 193, 194, 195, 196, 197, 198, 199, 200, 201, 202, 203, 204, 205, 206, 207, 208, 209, 210, 211, 212, 213, 214, 215, 216, 217, 218, 219, 220, 221, 222, 223, 224, 225, 226, 227, 228, 229, 230, 231, 232, 233, 234, 235, 236, 237, 238, 239, 240, 241, 242, 243, 244, 245, 246, 247, 248, 249, 250, 251, 252, 253, 254, 255, 256, 257, 258, 259, 260, 261, 262, 263, 264, 265, 266, 267, 268, 269, 270, 271, 272, 273, 274, 275, 276, 277, 278, 279, 280, 281, 282, 283, 284, 285, 286, 287, 288, 289, 290, 291, 292, 293, 294, 295, 296, 297, 298, 299, 300, 301, 302, 303, 304, 305, 306, 307, 308, 309, 310, 311, 312, 313, 314, 315, 316, 317, 318, 319] rfl (by decide +kernel)) (goodIn_sub (fun _ h => List.mem_cons_of_mem _ (List.mem_append_left _ (List.mem_append_right _ h))) (by decide +kernel))) (goodIn_sub (fun _ h => List.mem_cons_of_mem _ (List.mem_append_right _ h)) (by decide +kernel))
set_option maxRecDepth 20000 in
theorem gL_judge_X11_judge : GoodIn wsL_judge (wsV RL 25 RX11 yX11_judge wsX11_judge) := goodIn_app (goodIn_of _ (by decide +kernel)) ggL_judge_X11_judge
theorem dL_judge_0 : decode cL_judge 0 = .ok (.aload_n 0, 1) := by decide +kernel
theorem dL_judge_1 : decode cL_judge 1 = .ok (.iload_n 1, 1) := by decide +kernel
theorem dL_judge_2 : decode cL_judge 2 = .ok (.invokevirtual 25, 3) := by decide +kernel
theorem dL_judge_5 : decode cL_judge 5 = .ok (.goto 9, 3) := by decide +kernel
theorem dL_judge_8 : decode cL_judge 8 = .ok (.astore_n 2, 1) := by decide +kernel
theorem dL_judge_9 : decode cL_judge 9 = .ok (.iconst 1, 1) := by decide +kernel
theorem dL_judge_10 : decode cL_judge 10 = .ok (.ireturn, 1) := by decide +kernel
theorem dL_judge_11 : decode cL_judge 11 = .ok (.astore_n 2, 1) := by decide +kernel
theorem dL_judge_12 : decode cL_judge 12 = .ok (.iconst 2, 1) := by decide +kernel
theorem dL_judge_13 : decode cL_judge 13 = .ok (.ireturn, 1) := by decide +kernel
theorem dL_judge_14 : decode cL_judge 14 = .ok (.iconst 0, 1) := by decide +kernel
theorem dL_judge_15 : decode cL_judge 15 = .ok (.ireturn, 1) := by decide +kernel
set_option maxRecDepth 20000 in
theorem ggL_law_X11_init : GoodIn wsL_law wsX11_init := goodIn_r _ [9, 10, 11, 12, 13, 14, 15, 16, 17, 18, 19, 20, 21, 22, 23, 24, 25, 26, 27, 28, 29, 30, 31, 32, 33, 34, 35, 36, 37, 38, 39, 40, 41, 42, 43, 44, 45, 46, 47, 48, 49, 50, 51, 52, 53, 54, 55, 56, 57, 58, 59, 60, 61, 62, 63, 64, 65, 66, 67, 68, 69, 70, 71, 72, 73, 74, 75, 76, 77, 78, 79, 80, 81, 82, 83, 84, 85, 86, 87, 88, 89, 90, 91, 92, 93, 94, 95, 96, 97, 98, 99, 100, 101, 102, 103, 104, 105, 106, 107, 108, 109, 110, 111, 112, 113, 114, 115, 116, 117, 118, 119, 120, 121, 122, 123, 124, 125, 126, 127, 128, 129, 130, 131, 132, 133, 134, 135, 136, 137, 138, 139, 140, 141, 142, 143, 144, 145, 146, 147, 148, 149, 150, 151, 152, 153, 154, 155, 156, 157, 158, 159, 160, 161, 162, 163, 164, 165, 166, 167, 168, 169, 170, 171, 172, 173, 174, 175, 176, 177, 178, 179, 180, 181, 182, 183, 184, 1303, 1304, 1305, 1306, 1307, 1308, 1309, 1310, 1311, 1312, 1313, 1314, 1315, 1229, 1230, 1231, 1232, 1233, 1234, 1235, 1236, 1237, 1238, 1239, 1240, 1241, 1242, 1243, 1244, 1316, 1317, 1318, 1319, 1320, 1321, 1322, 1323, 1324, 1325, 1326, 1327, 1328, 1329, 1330, 1331, 1332, 1333, 1334, 1335, 1336, 1337, 1338, 1339, 1340, 1341, 1342, 1343, 1344, 1345, 1346, 1347, 1348, 1349, 1350, 1351, 1352, 1353, 1354, 1355, 1356, 1357, 1358, 1359, 1360, 1361, 1362, 1363, 1364, 1365, 1366, 1367, 1368] rfl (by decide +kernel)
set_option maxRecDepth 20000 in
theorem gL_law_X11_init : GoodIn wsL_law (wsX11_init) := ggL_law_X11_init
set_option maxRecDepth 20000 in
theorem ggL_law_X12_init : GoodIn wsL_law wsX12_init := goodIn_r _ [187, 188, 11, 12, 189, 74, 190, 191, 65, 192, 193, 194, 195, 196, 197, 198, 199, 200, 201, 202, 203, 71, 204, 205, 206, 207, 208, 209, 210, 211, 212, 213, 214, 215, 216, 217, 218, 219, 220, 221, 222, 223, 224, 225, 226, 227, 228, 229, 230, 231, 232, 233, 234, 235, 1245, 1246, 1247, 1248, 1249, 1250, 1251, 1252, 1253, 1254, 1255, 1256, 1257, 1258, 1259, 1260, 1261, 1262, 1263, 1264, 1265, 1266, 1267, 1268, 1269, 1270, 1271, 1272, 1273, 1274, 1275, 1276, 1277, 1278, 1279, 1280, 1281, 1282, 1283, 1284, 1285, 1286, 1287, 1288, 1289, 1290, 1291, 1292, 1293, 1294, 1295, 1296, 1297, 1298, 1299, 1300, 1301, 1302] rfl (by decide +kernel)
set_option maxRecDepth 20000 in
theorem gL_law_X12_init : GoodIn wsL_law (wsX12_init) := ggL_law_X12_init
set_option maxRecDepth 20000 in
theorem ggL_law_X11_type : GoodIn wsL_law wsX11_type := goodIn_r _ [239, 16, 240, 241, 242, 243, 244, 61, 245, 81, 80, 246, 247, 248, 1229, 1230, 1231, 1232, 1233, 1234, 1235, 1236, 1237, 1238, 1239, 1240, 1241, 1242, 1243, 1244, 1303, 1304, 1305, 1306, 1307, 1308, 1309, 1310, 1311, 1312, 1313, 1314, 1315, 1352, 1353, 1354, 1355, 1356, 1357] (by decide +kernel) (by decide +kernel)
set_option maxRecDepth 20000 in
theorem gL_law_X11_type : GoodIn wsL_law (wsV RL 35 RX11 yX11_type wsX11_type) := goodIn_app (goodIn_of _ (by decide +kernel)) ggL_law_X11_type
set_option maxRecDepth 20000 in
theorem ggL_law_X12_type : GoodIn wsL_law wsX12_type := goodIn_r _ [252, 253, 254, 255, 256, 257, 194, 1245, 1246, 1247, 1248, 1249, 1250, 1251, 1252, 1253, 1254, 1255, 1256, 1257, 1258, 1259, 1260, 1261, 1262, 1263, 1264, 1265, 1266, 1267, 1268, 1269, 1270, 1271, 1272, 1273, 1274, 1275, 1276, 1277, 1278, 1279, 1280, 1281, 1282, 1283, 1284, 1285, 1286, 1287, 1288, 1289, 1290, 1291, 1292, 1293, 1294, 1295, 1296, 1297, 1298, 1299, 1300, 1301, 1302] rfl (by decide +kernel)
set_option maxRecDepth 20000 in
theorem gL_law_X12_type : GoodIn wsL_law (wsV RL 39 RX12 yX12_type wsX12_type) := goodIn_app (goodIn_of _ (by decide +kernel)) ggL_law_X12_type
set_option maxRecDepth 20000 in
theorem ggL_law_X11_read : GoodIn wsL_law wsX11_read := goodIn_r _ [261, 16, 262, 49, 240, 241, 47, 48, 263, 264, 265, 15, 266, 64, 58, 57, 62, 267, 268, 269, 270, 46, 271, 90, 92, 272, 95, 273, 274, 275, 61, 276, 85, 277, 278, 279, 280, 81, 80, 83, 82, 281, 282, 283, 284, 84, 285, 286, 287, 288, 289, 290, 291, 67, 68, 292, 293, 294, 295, 296, 297, 298, 299, 300, 301, 302, 303, 304, 66, 305, 306, 307, 308, 309, 310, 311, 312, 313, 314, 315, 316, 317, 318, 319, 320, 321, 322, 323, 324, 325, 326, 327, 328, 329, 330, 331, 70, 69, 72, 73, 75, 76, 332, 333, 334, 335, 336, 337, 2, 338, 339, 340, 341, 342, 343, 344, 345, 346, 347, 348, 349, 350, 351, 352, 353, 354, 355, 356, 357, 358, 359, 360, 97, 361, 101, 102, 362, 363, 364, 365, 366, 103, 105, 104, 367, 368, 369, 370, 371, 372, 373, 374, 375, 376, 377, 378, 379, 380, 381, 382, 383, 384, 385, 386, 387, 388, 389, 390, 391, 392, 393, 394, 395, 396, 397, 398, 399, 400, 401, 402, 403, 404, 106, 107, 108, 405, 406, 407, 408, 409, 410, 411, 412, 413, 414, 415, 416, 417, 418, 419, 420, 421, 422, 423, 424, 425, 426, 35, 427, 25, 428, 429, 430, 51, 431, 174, 175, 1229, 1230, 1231, 1232, 1233, 1234, 1235, 1236, 1237, 1238, 1239, 1240, 1241, 1242, 1243, 1244, 1303, 1304, 1305, 1306, 1307, 1308, 1309, 1310, 1311, 1312, 1313, 1314, 1315, 1352, 1353, 1354, 1355, 1356, 1357, 1343, 1344, 1345, 1346, 1358, 1359, 1360, 1361, 1362, 1363, 1364, 1365, 1334, 1335, 1336, 1337, 1338, 1339, 1347, 1348, 1349] rfl (by decide +kernel)
