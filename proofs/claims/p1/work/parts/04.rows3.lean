set_option maxRecDepth 20000 in
theorem gX11_good_X11_isPlaying : GoodIn wsX11_good (wsV RX11 125 RX11 yX11_isPlaying wsX11_isPlaying) := goodIn_app (goodIn_of _ (by decide +kernel)) ggX11_good_X11_isPlaying
theorem dX11_good_0 : decode cX11_good 0 = .ok (.aload_n 0, 1) := by decide +kernel
theorem dX11_good_1 : decode cX11_good 1 = .ok (.iload_n 1, 1) := by decide +kernel
theorem dX11_good_2 : decode cX11_good 2 = .ok (.invokevirtual 125, 3) := by decide +kernel
theorem dX11_good_5 : decode cX11_good 5 = .ok (.ifCond .ne 5, 3) := by decide +kernel
theorem dX11_good_8 : decode cX11_good 8 = .ok (.iconst (-1), 1) := by decide +kernel
theorem dX11_good_9 : decode cX11_good 9 = .ok (.ireturn, 1) := by decide +kernel
theorem dX11_good_10 : decode cX11_good 10 = .ok (.aload_n 0, 1) := by decide +kernel
theorem dX11_good_11 : decode cX11_good 11 = .ok (.iload_n 1, 1) := by decide +kernel
theorem dX11_good_12 : decode cX11_good 12 = .ok (.iconst 1, 1) := by decide +kernel
theorem dX11_good_13 : decode cX11_good 13 = .ok (.isub, 1) := by decide +kernel
theorem dX11_good_14 : decode cX11_good 14 = .ok (.invokevirtual 173, 3) := by decide +kernel
theorem dX11_good_17 : decode cX11_good 17 = .ok (.ifCond .eq 7, 3) := by decide +kernel
theorem dX11_good_20 : decode cX11_good 20 = .ok (.iconst 1, 1) := by decide +kernel
theorem dX11_good_21 : decode cX11_good 21 = .ok (.goto 4, 3) := by decide +kernel
theorem dX11_good_24 : decode cX11_good 24 = .ok (.iconst 0, 1) := by decide +kernel
theorem dX11_good_25 : decode cX11_good 25 = .ok (.ireturn, 1) := by decide +kernel
theorem dX11_solve_0 : decode cX11_solve 0 = .ok (.aload_n 0, 1) := by decide +kernel
theorem dX11_solve_1 : decode cX11_solve 1 = .ok (.getfield 87, 3) := by decide +kernel
theorem dX11_solve_4 : decode cX11_solve 4 = .ok (.ifCond .ne 13, 3) := by decide +kernel
theorem dX11_solve_7 : decode cX11_solve 7 = .ok (.new 176, 3) := by decide +kernel
theorem dX11_solve_10 : decode cX11_solve 10 = .ok (.dup, 1) := by decide +kernel
theorem dX11_solve_11 : decode cX11_solve 11 = .ok (.ldc 178, 2) := by decide +kernel
theorem dX11_solve_13 : decode cX11_solve 13 = .ok (.invokespecial 180, 3) := by decide +kernel
theorem dX11_solve_16 : decode cX11_solve 16 = .ok (.athrow, 1) := by decide +kernel
theorem dX11_solve_17 : decode cX11_solve 17 = .ok (.aload_n 0, 1) := by decide +kernel
theorem dX11_solve_18 : decode cX11_solve 18 = .ok (.getfield 27, 3) := by decide +kernel
theorem dX11_solve_21 : decode cX11_solve 21 = .ok (.aload_n 0, 1) := by decide +kernel
theorem dX11_solve_22 : decode cX11_solve 22 = .ok (.getfield 83, 3) := by decide +kernel
theorem dX11_solve_25 : decode cX11_solve 25 = .ok (.invokevirtual 181, 3) := by decide +kernel
theorem dX11_solve_28 : decode cX11_solve 28 = .ok (.aload_n 0, 1) := by decide +kernel
theorem dX11_solve_29 : decode cX11_solve 29 = .ok (.getfield 27, 3) := by decide +kernel
theorem dX11_solve_32 : decode cX11_solve 32 = .ok (.aload_n 0, 1) := by decide +kernel
theorem dX11_solve_33 : decode cX11_solve 33 = .ok (.getfield 43, 3) := by decide +kernel
theorem dX11_solve_36 : decode cX11_solve 36 = .ok (.iconst 0, 1) := by decide +kernel
theorem dX11_solve_37 : decode cX11_solve 37 = .ok (.aaload, 1) := by decide +kernel
theorem dX11_solve_38 : decode cX11_solve 38 = .ok (.aload_n 0, 1) := by decide +kernel
theorem dX11_solve_39 : decode cX11_solve 39 = .ok (.getfield 43, 3) := by decide +kernel
theorem dX11_solve_42 : decode cX11_solve 42 = .ok (.iconst 1, 1) := by decide +kernel
theorem dX11_solve_43 : decode cX11_solve 43 = .ok (.aaload, 1) := by decide +kernel
theorem dX11_solve_44 : decode cX11_solve 44 = .ok (.invokevirtual 185, 3) := by decide +kernel
theorem dX11_solve_47 : decode cX11_solve 47 = .ok (.aload_n 0, 1) := by decide +kernel
theorem dX11_solve_48 : decode cX11_solve 48 = .ok (.getfield 59, 3) := by decide +kernel
theorem dX11_solve_51 : decode cX11_solve 51 = .ok (.iconst 0, 1) := by decide +kernel
theorem dX11_solve_52 : decode cX11_solve 52 = .ok (.aaload, 1) := by decide +kernel
theorem dX11_solve_53 : decode cX11_solve 53 = .ok (.aload_n 0, 1) := by decide +kernel
theorem dX11_solve_54 : decode cX11_solve 54 = .ok (.getfield 27, 3) := by decide +kernel
theorem dX11_solve_57 : decode cX11_solve 57 = .ok (.invokevirtual 189, 3) := by decide +kernel
theorem dX11_solve_60 : decode cX11_solve 60 = .ok (.aload_n 0, 1) := by decide +kernel
theorem dX11_solve_61 : decode cX11_solve 61 = .ok (.getfield 43, 3) := by decide +kernel
theorem dX11_solve_64 : decode cX11_solve 64 = .ok (.iconst 0, 1) := by decide +kernel
theorem dX11_solve_65 : decode cX11_solve 65 = .ok (.aaload, 1) := by decide +kernel
theorem dX11_solve_66 : decode cX11_solve 66 = .ok (.getfield 193, 3) := by decide +kernel
theorem dX11_solve_69 : decode cX11_solve 69 = .ok (.iconst 0, 1) := by decide +kernel
theorem dX11_solve_70 : decode cX11_solve 70 = .ok (.aaload, 1) := by decide +kernel
theorem dX11_solve_71 : decode cX11_solve 71 = .ok (.aload_n 0, 1) := by decide +kernel
theorem dX11_solve_72 : decode cX11_solve 72 = .ok (.getfield 83, 3) := by decide +kernel
theorem dX11_solve_75 : decode cX11_solve 75 = .ok (.getfield 197, 3) := by decide +kernel
theorem dX11_solve_78 : decode cX11_solve 78 = .ok (.invokevirtual 201, 3) := by decide +kernel
theorem dX11_solve_81 : decode cX11_solve 81 = .ok (.return_, 1) := by decide +kernel
theorem dX11_expect_0 : decode cX11_expect 0 = .ok (.aload_n 0, 1) := by decide +kernel
theorem dX11_expect_1 : decode cX11_expect 1 = .ok (.getfield 87, 3) := by decide +kernel
theorem dX11_expect_4 : decode cX11_expect 4 = .ok (.ifCond .eq 19, 3) := by decide +kernel
theorem dX11_expect_7 : decode cX11_expect 7 = .ok (.aload_n 0, 1) := by decide +kernel
theorem dX11_expect_8 : decode cX11_expect 8 = .ok (.iconst 0, 1) := by decide +kernel
theorem dX11_expect_9 : decode cX11_expect 9 = .ok (.invokevirtual 173, 3) := by decide +kernel
theorem dX11_expect_12 : decode cX11_expect 12 = .ok (.ifCond .eq 11, 3) := by decide +kernel
theorem dX11_expect_15 : decode cX11_expect 15 = .ok (.aload_n 0, 1) := by decide +kernel
theorem dX11_expect_16 : decode cX11_expect 16 = .ok (.iconst 1, 1) := by decide +kernel
theorem dX11_expect_17 : decode cX11_expect 17 = .ok (.invokevirtual 173, 3) := by decide +kernel
theorem dX11_expect_20 : decode cX11_expect 20 = .ok (.ifCond .ne 13, 3) := by decide +kernel
theorem dX11_expect_23 : decode cX11_expect 23 = .ok (.new 176, 3) := by decide +kernel
theorem dX11_expect_26 : decode cX11_expect 26 = .ok (.dup, 1) := by decide +kernel
theorem dX11_expect_27 : decode cX11_expect 27 = .ok (.ldc 205, 2) := by decide +kernel
theorem dX11_expect_29 : decode cX11_expect 29 = .ok (.invokespecial 180, 3) := by decide +kernel
theorem dX11_expect_32 : decode cX11_expect 32 = .ok (.athrow, 1) := by decide +kernel
theorem dX11_expect_33 : decode cX11_expect 33 = .ok (.aload_n 0, 1) := by decide +kernel
theorem dX11_expect_34 : decode cX11_expect 34 = .ok (.iconst 0, 1) := by decide +kernel
theorem dX11_expect_35 : decode cX11_expect 35 = .ok (.invokevirtual 207, 3) := by decide +kernel
theorem dX11_expect_38 : decode cX11_expect 38 = .ok (.aload_n 0, 1) := by decide +kernel
theorem dX11_expect_39 : decode cX11_expect 39 = .ok (.iconst 1, 1) := by decide +kernel
theorem dX11_expect_40 : decode cX11_expect 40 = .ok (.invokevirtual 207, 3) := by decide +kernel
theorem dX11_expect_43 : decode cX11_expect 43 = .ok (.aload_n 0, 1) := by decide +kernel
theorem dX11_expect_44 : decode cX11_expect 44 = .ok (.getfield 53, 3) := by decide +kernel
theorem dX11_expect_47 : decode cX11_expect 47 = .ok (.aload_n 0, 1) := by decide +kernel
theorem dX11_expect_48 : decode cX11_expect 48 = .ok (.getfield 83, 3) := by decide +kernel
theorem dX11_expect_51 : decode cX11_expect 51 = .ok (.aload_n 0, 1) := by decide +kernel
theorem dX11_expect_52 : decode cX11_expect 52 = .ok (.getfield 39, 3) := by decide +kernel
theorem dX11_expect_55 : decode cX11_expect 55 = .ok (.iconst 0, 1) := by decide +kernel
theorem dX11_expect_56 : decode cX11_expect 56 = .ok (.aaload, 1) := by decide +kernel
theorem dX11_expect_57 : decode cX11_expect 57 = .ok (.aload_n 0, 1) := by decide +kernel
theorem dX11_expect_58 : decode cX11_expect 58 = .ok (.getfield 39, 3) := by decide +kernel
theorem dX11_expect_61 : decode cX11_expect 61 = .ok (.iconst 1, 1) := by decide +kernel
theorem dX11_expect_62 : decode cX11_expect 62 = .ok (.aaload, 1) := by decide +kernel
theorem dX11_expect_63 : decode cX11_expect 63 = .ok (.aload_n 0, 1) := by decide +kernel
theorem dX11_expect_64 : decode cX11_expect 64 = .ok (.getfield 73, 3) := by decide +kernel
theorem dX11_expect_67 : decode cX11_expect 67 = .ok (.invokevirtual 210, 3) := by decide +kernel
theorem dX11_expect_70 : decode cX11_expect 70 = .ok (.aload_n 0, 1) := by decide +kernel
theorem dX11_expect_71 : decode cX11_expect 71 = .ok (.getfield 77, 3) := by decide +kernel
theorem dX11_expect_74 : decode cX11_expect 74 = .ok (.aload_n 0, 1) := by decide +kernel
theorem dX11_expect_75 : decode cX11_expect 75 = .ok (.getfield 39, 3) := by decide +kernel
theorem dX11_expect_78 : decode cX11_expect 78 = .ok (.iconst 0, 1) := by decide +kernel
theorem dX11_expect_79 : decode cX11_expect 79 = .ok (.aaload, 1) := by decide +kernel
theorem dX11_expect_80 : decode cX11_expect 80 = .ok (.getfield 193, 3) := by decide +kernel
theorem dX11_expect_83 : decode cX11_expect 83 = .ok (.iconst 0, 1) := by decide +kernel
theorem dX11_expect_84 : decode cX11_expect 84 = .ok (.aaload, 1) := by decide +kernel
theorem dX11_expect_85 : decode cX11_expect 85 = .ok (.aload_n 0, 1) := by decide +kernel
theorem dX11_expect_86 : decode cX11_expect 86 = .ok (.getfield 39, 3) := by decide +kernel
theorem dX11_expect_89 : decode cX11_expect 89 = .ok (.iconst 1, 1) := by decide +kernel
theorem dX11_expect_90 : decode cX11_expect 90 = .ok (.aaload, 1) := by decide +kernel
theorem dX11_expect_91 : decode cX11_expect 91 = .ok (.getfield 193, 3) := by decide +kernel
theorem dX11_expect_94 : decode cX11_expect 94 = .ok (.iconst 0, 1) := by decide +kernel
theorem dX11_expect_95 : decode cX11_expect 95 = .ok (.aaload, 1) := by decide +kernel
theorem dX11_expect_96 : decode cX11_expect 96 = .ok (.invokevirtual 214, 3) := by decide +kernel
theorem dX11_expect_99 : decode cX11_expect 99 = .ok (.aload_n 0, 1) := by decide +kernel
theorem dX11_expect_100 : decode cX11_expect 100 = .ok (.getfield 59, 3) := by decide +kernel
theorem dX11_expect_103 : decode cX11_expect 103 = .ok (.iconst 1, 1) := by decide +kernel
theorem dX11_expect_104 : decode cX11_expect 104 = .ok (.aaload, 1) := by decide +kernel
theorem dX11_expect_105 : decode cX11_expect 105 = .ok (.aload_n 0, 1) := by decide +kernel
theorem dX11_expect_106 : decode cX11_expect 106 = .ok (.getfield 73, 3) := by decide +kernel
theorem dX11_expect_109 : decode cX11_expect 109 = .ok (.aload_n 0, 1) := by decide +kernel
theorem dX11_expect_110 : decode cX11_expect 110 = .ok (.getfield 77, 3) := by decide +kernel
theorem dX11_expect_113 : decode cX11_expect 113 = .ok (.aload_n 0, 1) := by decide +kernel
theorem dX11_expect_114 : decode cX11_expect 114 = .ok (.getfield 83, 3) := by decide +kernel
theorem dX11_expect_117 : decode cX11_expect 117 = .ok (.getfield 197, 3) := by decide +kernel
theorem dX11_expect_120 : decode cX11_expect 120 = .ok (.invokevirtual 201, 3) := by decide +kernel
theorem dX11_expect_123 : decode cX11_expect 123 = .ok (.return_, 1) := by decide +kernel
theorem dX11_judge_0 : decode cX11_judge 0 = .ok (.iload_n 1, 1) := by decide +kernel
theorem dX11_judge_1 : decode cX11_judge 1 = .ok (.invokestatic 218, 3) := by decide +kernel
theorem dX11_judge_4 : decode cX11_judge 4 = .ok (.ifCond .ne 13, 3) := by decide +kernel
theorem dX11_judge_7 : decode cX11_judge 7 = .ok (.new 164, 3) := by decide +kernel
theorem dX11_judge_10 : decode cX11_judge 10 = .ok (.dup, 1) := by decide +kernel
theorem dX11_judge_11 : decode cX11_judge 11 = .ok (.ldc 221, 2) := by decide +kernel
theorem dX11_judge_13 : decode cX11_judge 13 = .ok (.invokespecial 168, 3) := by decide +kernel
theorem dX11_judge_16 : decode cX11_judge 16 = .ok (.athrow, 1) := by decide +kernel
theorem dX11_judge_17 : decode cX11_judge 17 = .ok (.iload_n 1, 1) := by decide +kernel
theorem dX11_judge_18 : decode cX11_judge 18 = .ok (.iconst 1, 1) := by decide +kernel
theorem dX11_judge_19 : decode cX11_judge 19 = .ok (.isub, 1) := by decide +kernel
theorem dX11_judge_20 : decode cX11_judge 20 = .ok (.istore_n 2, 1) := by decide +kernel
theorem dX11_judge_21 : decode cX11_judge 21 = .ok (.aload_n 0, 1) := by decide +kernel
theorem dX11_judge_22 : decode cX11_judge 22 = .ok (.getfield 87, 3) := by decide +kernel
theorem dX11_judge_25 : decode cX11_judge 25 = .ok (.ifCond .eq 11, 3) := by decide +kernel
theorem dX11_judge_28 : decode cX11_judge 28 = .ok (.aload_n 0, 1) := by decide +kernel
theorem dX11_judge_29 : decode cX11_judge 29 = .ok (.iload_n 2, 1) := by decide +kernel
theorem dX11_judge_30 : decode cX11_judge 30 = .ok (.invokevirtual 173, 3) := by decide +kernel
theorem dX11_judge_33 : decode cX11_judge 33 = .ok (.ifCond .ne 13, 3) := by decide +kernel
theorem dX11_judge_36 : decode cX11_judge 36 = .ok (.new 176, 3) := by decide +kernel
theorem dX11_judge_39 : decode cX11_judge 39 = .ok (.dup, 1) := by decide +kernel
theorem dX11_judge_40 : decode cX11_judge 40 = .ok (.ldc 223, 2) := by decide +kernel
theorem dX11_judge_42 : decode cX11_judge 42 = .ok (.invokespecial 180, 3) := by decide +kernel
theorem dX11_judge_45 : decode cX11_judge 45 = .ok (.athrow, 1) := by decide +kernel
theorem dX11_judge_46 : decode cX11_judge 46 = .ok (.aload_n 0, 1) := by decide +kernel
theorem dX11_judge_47 : decode cX11_judge 47 = .ok (.iload_n 2, 1) := by decide +kernel
theorem dX11_judge_48 : decode cX11_judge 48 = .ok (.invokevirtual 207, 3) := by decide +kernel
theorem dX11_judge_51 : decode cX11_judge 51 = .ok (.aload_n 0, 1) := by decide +kernel
theorem dX11_judge_52 : decode cX11_judge 52 = .ok (.getfield 48, 3) := by decide +kernel
theorem dX11_judge_55 : decode cX11_judge 55 = .ok (.iload_n 2, 1) := by decide +kernel
theorem dX11_judge_56 : decode cX11_judge 56 = .ok (.aaload, 1) := by decide +kernel
theorem dX11_judge_57 : decode cX11_judge 57 = .ok (.aload_n 0, 1) := by decide +kernel
theorem dX11_judge_58 : decode cX11_judge 58 = .ok (.getfield 83, 3) := by decide +kernel
theorem dX11_judge_61 : decode cX11_judge 61 = .ok (.iload_n 2, 1) := by decide +kernel
theorem dX11_judge_62 : decode cX11_judge 62 = .ok (.invokestatic 225, 3) := by decide +kernel
theorem dX11_judge_65 : decode cX11_judge 65 = .ok (.aload_n 0, 1) := by decide +kernel
theorem dX11_judge_66 : decode cX11_judge 66 = .ok (.getfield 39, 3) := by decide +kernel
theorem dX11_judge_69 : decode cX11_judge 69 = .ok (.iload_n 2, 1) := by decide +kernel
theorem dX11_judge_70 : decode cX11_judge 70 = .ok (.aaload, 1) := by decide +kernel
theorem dX11_judge_71 : decode cX11_judge 71 = .ok (.invokevirtual 229, 3) := by decide +kernel
theorem dX11_judge_74 : decode cX11_judge 74 = .ok (.aload_n 0, 1) := by decide +kernel
theorem dX11_judge_75 : decode cX11_judge 75 = .ok (.getfield 59, 3) := by decide +kernel
theorem dX11_judge_78 : decode cX11_judge 78 = .ok (.iconst 2, 1) := by decide +kernel
theorem dX11_judge_79 : decode cX11_judge 79 = .ok (.iload_n 2, 1) := by decide +kernel
theorem dX11_judge_80 : decode cX11_judge 80 = .ok (.iadd, 1) := by decide +kernel
theorem dX11_judge_81 : decode cX11_judge 81 = .ok (.aaload, 1) := by decide +kernel
theorem dX11_judge_82 : decode cX11_judge 82 = .ok (.aload_n 0, 1) := by decide +kernel
theorem dX11_judge_83 : decode cX11_judge 83 = .ok (.getfield 48, 3) := by decide +kernel
theorem dX11_judge_86 : decode cX11_judge 86 = .ok (.iload_n 2, 1) := by decide +kernel
theorem dX11_judge_87 : decode cX11_judge 87 = .ok (.aaload, 1) := by decide +kernel
theorem dX11_judge_88 : decode cX11_judge 88 = .ok (.invokevirtual 232, 3) := by decide +kernel
theorem dX11_judge_91 : decode cX11_judge 91 = .ok (.aload_n 0, 1) := by decide +kernel
theorem dX11_judge_92 : decode cX11_judge 92 = .ok (.getfield 39, 3) := by decide +kernel
theorem dX11_judge_95 : decode cX11_judge 95 = .ok (.iload_n 2, 1) := by decide +kernel
theorem dX11_judge_96 : decode cX11_judge 96 = .ok (.aaload, 1) := by decide +kernel
theorem dX11_judge_97 : decode cX11_judge 97 = .ok (.getfield 193, 3) := by decide +kernel
theorem dX11_judge_100 : decode cX11_judge 100 = .ok (.iconst 0, 1) := by decide +kernel
theorem dX11_judge_101 : decode cX11_judge 101 = .ok (.aaload, 1) := by decide +kernel
theorem dX11_judge_102 : decode cX11_judge 102 = .ok (.aload_n 0, 1) := by decide +kernel
theorem dX11_judge_103 : decode cX11_judge 103 = .ok (.getfield 83, 3) := by decide +kernel
theorem dX11_judge_106 : decode cX11_judge 106 = .ok (.getfield 197, 3) := by decide +kernel
theorem dX11_judge_109 : decode cX11_judge 109 = .ok (.invokevirtual 201, 3) := by decide +kernel
theorem dX11_judge_112 : decode cX11_judge 112 = .ok (.return_, 1) := by decide +kernel
set_option maxRecDepth 20000 in
theorem ggX11_reply_X11_isPlaying : GoodIn wsX11_reply wsX11_isPlaying := goodIn_r _ [11, 12, 13, 14, 10, 15, 25, 26, 27, 28, 29, 30, 31, 32, 33, 34, 35, 36, 37, 38, 39, 40] (by decide +kernel) (by decide +kernel)
set_option maxRecDepth 20000 in
theorem gX11_reply_X11_isPlaying : GoodIn wsX11_reply (wsV RX11 125 RX11 yX11_isPlaying wsX11_isPlaying) := goodIn_app (goodIn_of _ (by decide +kernel)) ggX11_reply_X11_isPlaying
theorem dX11_reply_0 : decode cX11_reply 0 = .ok (.aload_n 0, 1) := by decide +kernel
theorem dX11_reply_1 : decode cX11_reply 1 = .ok (.iload_n 1, 1) := by decide +kernel
theorem dX11_reply_2 : decode cX11_reply 2 = .ok (.invokevirtual 125, 3) := by decide +kernel
theorem dX11_reply_5 : decode cX11_reply 5 = .ok (.ifCond .eq 19, 3) := by decide +kernel
theorem dX11_reply_8 : decode cX11_reply 8 = .ok (.aload_n 0, 1) := by decide +kernel
theorem dX11_reply_9 : decode cX11_reply 9 = .ok (.getfield 59, 3) := by decide +kernel
theorem dX11_reply_12 : decode cX11_reply 12 = .ok (.iconst 2, 1) := by decide +kernel
theorem dX11_reply_13 : decode cX11_reply 13 = .ok (.iload_n 1, 1) := by decide +kernel
theorem dX11_reply_14 : decode cX11_reply 14 = .ok (.iadd, 1) := by decide +kernel
theorem dX11_reply_15 : decode cX11_reply 15 = .ok (.iconst 1, 1) := by decide +kernel
theorem dX11_reply_16 : decode cX11_reply 16 = .ok (.isub, 1) := by decide +kernel
theorem dX11_reply_17 : decode cX11_reply 17 = .ok (.aaload, 1) := by decide +kernel
theorem dX11_reply_18 : decode cX11_reply 18 = .ok (.getfield 235, 3) := by decide +kernel
theorem dX11_reply_21 : decode cX11_reply 21 = .ok (.ifCond .ne 5, 3) := by decide +kernel
theorem dX11_reply_24 : decode cX11_reply 24 = .ok (.iconst (-1), 1) := by decide +kernel
theorem dX11_reply_25 : decode cX11_reply 25 = .ok (.ireturn, 1) := by decide +kernel
theorem dX11_reply_26 : decode cX11_reply 26 = .ok (.iload_n 1, 1) := by decide +kernel
theorem dX11_reply_27 : decode cX11_reply 27 = .ok (.iconst 1, 1) := by decide +kernel
theorem dX11_reply_28 : decode cX11_reply 28 = .ok (.isub, 1) := by decide +kernel
theorem dX11_reply_29 : decode cX11_reply 29 = .ok (.istore_n 3, 1) := by decide +kernel
theorem dX11_reply_30 : decode cX11_reply 30 = .ok (.aload_n 0, 1) := by decide +kernel
theorem dX11_reply_31 : decode cX11_reply 31 = .ok (.getfield 83, 3) := by decide +kernel
theorem dX11_reply_34 : decode cX11_reply 34 = .ok (.getfield 238, 3) := by decide +kernel
theorem dX11_reply_37 : decode cX11_reply 37 = .ok (.iload_n 3, 1) := by decide +kernel
theorem dX11_reply_38 : decode cX11_reply 38 = .ok (.invokestatic 225, 3) := by decide +kernel
theorem dX11_reply_41 : decode cX11_reply 41 = .ok (.aaload, 1) := by decide +kernel
theorem dX11_reply_42 : decode cX11_reply 42 = .ok (.iload_n 2, 1) := by decide +kernel
theorem dX11_reply_43 : decode cX11_reply 43 = .ok (.invokevirtual 138, 3) := by decide +kernel
theorem dX11_reply_46 : decode cX11_reply 46 = .ok (.ifCond .eq 17, 3) := by decide +kernel
theorem dX11_reply_49 : decode cX11_reply 49 = .ok (.aload_n 0, 1) := by decide +kernel
theorem dX11_reply_50 : decode cX11_reply 50 = .ok (.getfield 48, 3) := by decide +kernel
theorem dX11_reply_53 : decode cX11_reply 53 = .ok (.iload_n 3, 1) := by decide +kernel
theorem dX11_reply_54 : decode cX11_reply 54 = .ok (.aaload, 1) := by decide +kernel
theorem dX11_reply_55 : decode cX11_reply 55 = .ok (.getfield 242, 3) := by decide +kernel
theorem dX11_reply_58 : decode cX11_reply 58 = .ok (.iload_n 2, 1) := by decide +kernel
theorem dX11_reply_59 : decode cX11_reply 59 = .ok (.iaload, 1) := by decide +kernel
theorem dX11_reply_60 : decode cX11_reply 60 = .ok (.goto 4, 3) := by decide +kernel
theorem dX11_reply_63 : decode cX11_reply 63 = .ok (.iconst (-1), 1) := by decide +kernel
theorem dX11_reply_64 : decode cX11_reply 64 = .ok (.ireturn, 1) := by decide +kernel
set_option maxRecDepth 20000 in
theorem ggX11_print_X11_isKnown : GoodIn wsX11_print wsX11_isKnown := goodIn_r _ [8, 1, 9, 57, 58, 59, 60, 61, 62, 63, 64, 65, 66, 67, 68, 69, 70, 71, 72, 73, 74, 75, 76, 77, 78] (by decide +kernel) (by decide +kernel)
set_option maxRecDepth 20000 in
theorem gX11_print_X11_isKnown : GoodIn wsX11_print (wsV RX11 243 RX11 yX11_isKnown wsX11_isKnown) := goodIn_app (goodIn_of _ (by decide +kernel)) ggX11_print_X11_isKnown
theorem dX11_print_0 : decode cX11_print 0 = .ok (.aload_n 0, 1) := by decide +kernel
theorem dX11_print_1 : decode cX11_print 1 = .ok (.iload_n 1, 1) := by decide +kernel
theorem dX11_print_2 : decode cX11_print 2 = .ok (.invokevirtual 243, 3) := by decide +kernel
theorem dX11_print_5 : decode cX11_print 5 = .ok (.ifCond .ne 5, 3) := by decide +kernel
theorem dX11_print_8 : decode cX11_print 8 = .ok (.iconst (-1), 1) := by decide +kernel
theorem dX11_print_9 : decode cX11_print 9 = .ok (.ireturn, 1) := by decide +kernel
theorem dX11_print_10 : decode cX11_print 10 = .ok (.aload_n 0, 1) := by decide +kernel
theorem dX11_print_11 : decode cX11_print 11 = .ok (.aload_n 0, 1) := by decide +kernel
theorem dX11_print_12 : decode cX11_print 12 = .ok (.getfield 59, 3) := by decide +kernel
theorem dX11_print_15 : decode cX11_print 15 = .ok (.iload_n 1, 1) := by decide +kernel
theorem dX11_print_16 : decode cX11_print 16 = .ok (.aaload, 1) := by decide +kernel
theorem dX11_print_17 : decode cX11_print 17 = .ok (.aload_n 0, 1) := by decide +kernel
theorem dX11_print_18 : decode cX11_print 18 = .ok (.getfield 16, 3) := by decide +kernel
theorem dX11_print_21 : decode cX11_print 21 = .ok (.invokevirtual 246, 3) := by decide +kernel
theorem dX11_print_24 : decode cX11_print 24 = .ok (.putfield 20, 3) := by decide +kernel
theorem dX11_print_27 : decode cX11_print 27 = .ok (.aload_n 0, 1) := by decide +kernel
theorem dX11_print_28 : decode cX11_print 28 = .ok (.getfield 20, 3) := by decide +kernel
theorem dX11_print_31 : decode cX11_print 31 = .ok (.ireturn, 1) := by decide +kernel
theorem dX11_character_0 : decode cX11_character 0 = .ok (.iload_n 1, 1) := by decide +kernel
theorem dX11_character_1 : decode cX11_character 1 = .ok (.ifCond .lt 20, 3) := by decide +kernel
theorem dX11_character_4 : decode cX11_character 4 = .ok (.iload_n 1, 1) := by decide +kernel
theorem dX11_character_5 : decode cX11_character 5 = .ok (.aload_n 0, 1) := by decide +kernel
theorem dX11_character_6 : decode cX11_character 6 = .ok (.getfield 20, 3) := by decide +kernel
theorem dX11_character_9 : decode cX11_character 9 = .ok (.if_icmp .ge 12, 3) := by decide +kernel
theorem dX11_character_12 : decode cX11_character 12 = .ok (.aload_n 0, 1) := by decide +kernel
theorem dX11_character_13 : decode cX11_character 13 = .ok (.getfield 16, 3) := by decide +kernel
theorem dX11_character_16 : decode cX11_character 16 = .ok (.iload_n 1, 1) := by decide +kernel
theorem dX11_character_17 : decode cX11_character 17 = .ok (.caload, 1) := by decide +kernel
theorem dX11_character_18 : decode cX11_character 18 = .ok (.goto 4, 3) := by decide +kernel
theorem dX11_character_21 : decode cX11_character 21 = .ok (.iconst (-1), 1) := by decide +kernel
theorem dX11_character_22 : decode cX11_character 22 = .ok (.ireturn, 1) := by decide +kernel
set_option maxRecDepth 20000 in
theorem ggX11_compare_X11_isKnown : GoodIn wsX11_compare wsX11_isKnown := goodIn_r _ [6, 1, 7, 54, 55, 56, 57, 58, 59, 60, 61, 62, 63, 64, 65, 66, 67, 68, 69, 70, 71, 72, 73, 74, 75] (by decide +kernel) (by decide +kernel)
set_option maxRecDepth 20000 in
theorem gX11_compare_X11_isKnown : GoodIn wsX11_compare (wsV RX11 243 RX11 yX11_isKnown wsX11_isKnown) := goodIn_app (goodIn_of _ (by decide +kernel)) ggX11_compare_X11_isKnown
theorem dX11_compare_0 : decode cX11_compare 0 = .ok (.aload_n 0, 1) := by decide +kernel
theorem dX11_compare_1 : decode cX11_compare 1 = .ok (.iload_n 1, 1) := by decide +kernel
theorem dX11_compare_2 : decode cX11_compare 2 = .ok (.invokevirtual 243, 3) := by decide +kernel
theorem dX11_compare_5 : decode cX11_compare 5 = .ok (.ifCond .eq 29, 3) := by decide +kernel
theorem dX11_compare_8 : decode cX11_compare 8 = .ok (.aload_n 0, 1) := by decide +kernel
theorem dX11_compare_9 : decode cX11_compare 9 = .ok (.iload_n 2, 1) := by decide +kernel
theorem dX11_compare_10 : decode cX11_compare 10 = .ok (.invokevirtual 243, 3) := by decide +kernel
theorem dX11_compare_13 : decode cX11_compare 13 = .ok (.ifCond .eq 21, 3) := by decide +kernel
theorem dX11_compare_16 : decode cX11_compare 16 = .ok (.aload_n 0, 1) := by decide +kernel
theorem dX11_compare_17 : decode cX11_compare 17 = .ok (.getfield 59, 3) := by decide +kernel
theorem dX11_compare_20 : decode cX11_compare 20 = .ok (.iload_n 1, 1) := by decide +kernel
theorem dX11_compare_21 : decode cX11_compare 21 = .ok (.aaload, 1) := by decide +kernel
theorem dX11_compare_22 : decode cX11_compare 22 = .ok (.aload_n 0, 1) := by decide +kernel
theorem dX11_compare_23 : decode cX11_compare 23 = .ok (.getfield 59, 3) := by decide +kernel
theorem dX11_compare_26 : decode cX11_compare 26 = .ok (.iload_n 2, 1) := by decide +kernel
theorem dX11_compare_27 : decode cX11_compare 27 = .ok (.aaload, 1) := by decide +kernel
theorem dX11_compare_28 : decode cX11_compare 28 = .ok (.invokevirtual 250, 3) := by decide +kernel
theorem dX11_compare_31 : decode cX11_compare 31 = .ok (.goto 5, 3) := by decide +kernel
theorem dX11_compare_34 : decode cX11_compare 34 = .ok (.bipush (-2), 2) := by decide +kernel
theorem dX11_compare_36 : decode cX11_compare 36 = .ok (.ireturn, 1) := by decide +kernel
theorem dX11_check_0 : decode cX11_check 0 = .ok (.aload_n 0, 1) := by decide +kernel
theorem dX11_check_1 : decode cX11_check 1 = .ok (.getfield 59, 3) := by decide +kernel
theorem dX11_check_4 : decode cX11_check 4 = .ok (.iconst 0, 1) := by decide +kernel
theorem dX11_check_5 : decode cX11_check 5 = .ok (.aaload, 1) := by decide +kernel
theorem dX11_check_6 : decode cX11_check 6 = .ok (.getfield 235, 3) := by decide +kernel
theorem dX11_check_9 : decode cX11_check 9 = .ok (.ifCond .ne 5, 3) := by decide +kernel
theorem dX11_check_12 : decode cX11_check 12 = .ok (.iconst (-1), 1) := by decide +kernel
theorem dX11_check_13 : decode cX11_check 13 = .ok (.ireturn, 1) := by decide +kernel
theorem dX11_check_14 : decode cX11_check 14 = .ok (.aload_n 0, 1) := by decide +kernel
theorem dX11_check_15 : decode cX11_check 15 = .ok (.iconst 0, 1) := by decide +kernel
theorem dX11_check_16 : decode cX11_check 16 = .ok (.invokevirtual 254, 3) := by decide +kernel
theorem dX11_check_19 : decode cX11_check 19 = .ok (.ifCond .eq 15, 3) := by decide +kernel
theorem dX11_check_22 : decode cX11_check 22 = .ok (.aload_n 0, 1) := by decide +kernel
theorem dX11_check_23 : decode cX11_check 23 = .ok (.iconst 1, 1) := by decide +kernel
theorem dX11_check_24 : decode cX11_check 24 = .ok (.invokevirtual 254, 3) := by decide +kernel
theorem dX11_check_27 : decode cX11_check 27 = .ok (.ifCond .eq 7, 3) := by decide +kernel
theorem dX11_check_30 : decode cX11_check 30 = .ok (.iconst 1, 1) := by decide +kernel
theorem dX11_check_31 : decode cX11_check 31 = .ok (.goto 4, 3) := by decide +kernel
theorem dX11_check_34 : decode cX11_check 34 = .ok (.iconst 0, 1) := by decide +kernel
theorem dX11_check_35 : decode cX11_check 35 = .ok (.ireturn, 1) := by decide +kernel
theorem dX11_isPlayer_0 : decode cX11_isPlayer 0 = .ok (.iload_n 0, 1) := by decide +kernel
theorem dX11_isPlayer_1 : decode cX11_isPlayer 1 = .ok (.iconst 1, 1) := by decide +kernel
theorem dX11_isPlayer_2 : decode cX11_isPlayer 2 = .ok (.if_icmp .eq 8, 3) := by decide +kernel
theorem dX11_isPlayer_5 : decode cX11_isPlayer 5 = .ok (.iload_n 0, 1) := by decide +kernel
theorem dX11_isPlayer_6 : decode cX11_isPlayer 6 = .ok (.iconst 2, 1) := by decide +kernel
theorem dX11_isPlayer_7 : decode cX11_isPlayer 7 = .ok (.if_icmp .ne 7, 3) := by decide +kernel
theorem dX11_isPlayer_10 : decode cX11_isPlayer 10 = .ok (.iconst 1, 1) := by decide +kernel
theorem dX11_isPlayer_11 : decode cX11_isPlayer 11 = .ok (.goto 4, 3) := by decide +kernel
theorem dX11_isPlayer_14 : decode cX11_isPlayer 14 = .ok (.iconst 0, 1) := by decide +kernel
theorem dX11_isPlayer_15 : decode cX11_isPlayer 15 = .ok (.ireturn, 1) := by decide +kernel
set_option maxRecDepth 20000 in
theorem ggX11_isPlaying_X11_isPlayer : GoodIn wsX11_isPlaying wsX11_isPlayer := goodIn_r _ [5] (by decide +kernel) (by decide +kernel)
set_option maxRecDepth 20000 in
theorem gX11_isPlaying_X11_isPlayer : GoodIn wsX11_isPlaying (va_wsS RX11 218 yX11_isPlayer wsX11_isPlayer) := goodIn_app (goodIn_of _ (by decide +kernel)) ggX11_isPlaying_X11_isPlayer
theorem dX11_isPlaying_0 : decode cX11_isPlaying 0 = .ok (.aload_n 0, 1) := by decide +kernel
theorem dX11_isPlaying_1 : decode cX11_isPlaying 1 = .ok (.getfield 87, 3) := by decide +kernel
theorem dX11_isPlaying_4 : decode cX11_isPlaying 4 = .ok (.ifCond .eq 14, 3) := by decide +kernel
theorem dX11_isPlaying_7 : decode cX11_isPlaying 7 = .ok (.iload_n 1, 1) := by decide +kernel
theorem dX11_isPlaying_8 : decode cX11_isPlaying 8 = .ok (.invokestatic 218, 3) := by decide +kernel
theorem dX11_isPlaying_11 : decode cX11_isPlaying 11 = .ok (.ifCond .eq 7, 3) := by decide +kernel
theorem dX11_isPlaying_14 : decode cX11_isPlaying 14 = .ok (.iconst 1, 1) := by decide +kernel
theorem dX11_isPlaying_15 : decode cX11_isPlaying 15 = .ok (.goto 4, 3) := by decide +kernel
theorem dX11_isPlaying_18 : decode cX11_isPlaying 18 = .ok (.iconst 0, 1) := by decide +kernel
theorem dX11_isPlaying_19 : decode cX11_isPlaying 19 = .ok (.ireturn, 1) := by decide +kernel
theorem dX11_isKnown_0 : decode cX11_isKnown 0 = .ok (.iload_n 1, 1) := by decide +kernel
theorem dX11_isKnown_1 : decode cX11_isKnown 1 = .ok (.ifCond .lt 24, 3) := by decide +kernel
theorem dX11_isKnown_4 : decode cX11_isKnown 4 = .ok (.iload_n 1, 1) := by decide +kernel
theorem dX11_isKnown_5 : decode cX11_isKnown 5 = .ok (.iconst 4, 1) := by decide +kernel
theorem dX11_isKnown_6 : decode cX11_isKnown 6 = .ok (.if_icmp .ge 19, 3) := by decide +kernel
theorem dX11_isKnown_9 : decode cX11_isKnown 9 = .ok (.aload_n 0, 1) := by decide +kernel
theorem dX11_isKnown_10 : decode cX11_isKnown 10 = .ok (.getfield 59, 3) := by decide +kernel
theorem dX11_isKnown_13 : decode cX11_isKnown 13 = .ok (.iload_n 1, 1) := by decide +kernel
theorem dX11_isKnown_14 : decode cX11_isKnown 14 = .ok (.aaload, 1) := by decide +kernel
theorem dX11_isKnown_15 : decode cX11_isKnown 15 = .ok (.getfield 235, 3) := by decide +kernel
theorem dX11_isKnown_18 : decode cX11_isKnown 18 = .ok (.ifCond .eq 7, 3) := by decide +kernel
theorem dX11_isKnown_21 : decode cX11_isKnown 21 = .ok (.iconst 1, 1) := by decide +kernel
theorem dX11_isKnown_22 : decode cX11_isKnown 22 = .ok (.goto 4, 3) := by decide +kernel
theorem dX11_isKnown_25 : decode cX11_isKnown 25 = .ok (.iconst 0, 1) := by decide +kernel
theorem dX11_isKnown_26 : decode cX11_isKnown 26 = .ok (.ireturn, 1) := by decide +kernel
theorem dX12_init_0 : decode cX12_init 0 = .ok (.aload_n 0, 1) := by decide +kernel
theorem dX12_init_1 : decode cX12_init 1 = .ok (.invokespecial 87, 3) := by decide +kernel
theorem dX12_init_4 : decode cX12_init 4 = .ok (.aload_n 0, 1) := by decide +kernel
theorem dX12_init_5 : decode cX12_init 5 = .ok (.ldc 93, 2) := by decide +kernel
theorem dX12_init_7 : decode cX12_init 7 = .ok (.newarray .int, 2) := by decide +kernel
theorem dX12_init_9 : decode cX12_init 9 = .ok (.putfield 8, 3) := by decide +kernel
theorem dX12_init_12 : decode cX12_init 12 = .ok (.aload_n 0, 1) := by decide +kernel
theorem dX12_init_13 : decode cX12_init 13 = .ok (.sipush 4250, 3) := by decide +kernel
theorem dX12_init_16 : decode cX12_init 16 = .ok (.newarray .int, 2) := by decide +kernel
theorem dX12_init_18 : decode cX12_init 18 = .ok (.putfield 18, 3) := by decide +kernel
theorem dX12_init_21 : decode cX12_init 21 = .ok (.aload_n 0, 1) := by decide +kernel
theorem dX12_init_22 : decode cX12_init 22 = .ok (.sipush 4250, 3) := by decide +kernel
theorem dX12_init_25 : decode cX12_init 25 = .ok (.newarray .boolean, 2) := by decide +kernel
theorem dX12_init_27 : decode cX12_init 27 = .ok (.putfield 4, 3) := by decide +kernel
theorem dX12_init_30 : decode cX12_init 30 = .ok (.aload_n 0, 1) := by decide +kernel
theorem dX12_init_31 : decode cX12_init 31 = .ok (.sipush 4000, 3) := by decide +kernel
theorem dX12_init_34 : decode cX12_init 34 = .ok (.newarray .byte, 2) := by decide +kernel
theorem dX12_init_36 : decode cX12_init 36 = .ok (.putfield 94, 3) := by decide +kernel
theorem dX12_init_39 : decode cX12_init 39 = .ok (.aload_n 0, 1) := by decide +kernel
theorem dX12_init_40 : decode cX12_init 40 = .ok (.iconst (-1), 1) := by decide +kernel
theorem dX12_init_41 : decode cX12_init 41 = .ok (.putfield 98, 3) := by decide +kernel
theorem dX12_init_44 : decode cX12_init 44 = .ok (.aload_n 0, 1) := by decide +kernel
theorem dX12_init_45 : decode cX12_init 45 = .ok (.sipush 4001, 3) := by decide +kernel
theorem dX12_init_48 : decode cX12_init 48 = .ok (.newarray .int, 2) := by decide +kernel
theorem dX12_init_50 : decode cX12_init 50 = .ok (.putfield 102, 3) := by decide +kernel
theorem dX12_init_53 : decode cX12_init 53 = .ok (.aload_n 0, 1) := by decide +kernel
theorem dX12_init_54 : decode cX12_init 54 = .ok (.sipush 4001, 3) := by decide +kernel
theorem dX12_init_57 : decode cX12_init 57 = .ok (.newarray .int, 2) := by decide +kernel
theorem dX12_init_59 : decode cX12_init 59 = .ok (.putfield 105, 3) := by decide +kernel
theorem dX12_init_62 : decode cX12_init 62 = .ok (.aload_n 0, 1) := by decide +kernel
theorem dX12_init_63 : decode cX12_init 63 = .ok (.sipush 4001, 3) := by decide +kernel
theorem dX12_init_66 : decode cX12_init 66 = .ok (.newarray .int, 2) := by decide +kernel
theorem dX12_init_68 : decode cX12_init 68 = .ok (.putfield 108, 3) := by decide +kernel
theorem dX12_init_71 : decode cX12_init 71 = .ok (.aload_n 0, 1) := by decide +kernel
theorem dX12_init_72 : decode cX12_init 72 = .ok (.sipush 16100, 3) := by decide +kernel
theorem dX12_init_75 : decode cX12_init 75 = .ok (.newarray .int, 2) := by decide +kernel
theorem dX12_init_77 : decode cX12_init 77 = .ok (.putfield 111, 3) := by decide +kernel
theorem dX12_init_80 : decode cX12_init 80 = .ok (.aload_n 0, 1) := by decide +kernel
theorem dX12_init_81 : decode cX12_init 81 = .ok (.iconst 2, 1) := by decide +kernel
theorem dX12_init_82 : decode cX12_init 82 = .ok (.newarray .int, 2) := by decide +kernel
theorem dX12_init_84 : decode cX12_init 84 = .ok (.putfield 114, 3) := by decide +kernel
theorem dX12_init_87 : decode cX12_init 87 = .ok (.aload_n 0, 1) := by decide +kernel
theorem dX12_init_88 : decode cX12_init 88 = .ok (.iconst 2, 1) := by decide +kernel
theorem dX12_init_89 : decode cX12_init 89 = .ok (.newarray .int, 2) := by decide +kernel
theorem dX12_init_91 : decode cX12_init 91 = .ok (.putfield 117, 3) := by decide +kernel
theorem dX12_init_94 : decode cX12_init 94 = .ok (.aload_n 0, 1) := by decide +kernel
theorem dX12_init_95 : decode cX12_init 95 = .ok (.iconst 2, 1) := by decide +kernel
theorem dX12_init_96 : decode cX12_init 96 = .ok (.newarray .int, 2) := by decide +kernel
theorem dX12_init_98 : decode cX12_init 98 = .ok (.putfield 120, 3) := by decide +kernel
theorem dX12_init_101 : decode cX12_init 101 = .ok (.aload_n 0, 1) := by decide +kernel
theorem dX12_init_102 : decode cX12_init 102 = .ok (.iconst 2, 1) := by decide +kernel
theorem dX12_init_103 : decode cX12_init 103 = .ok (.newarray .int, 2) := by decide +kernel
theorem dX12_init_105 : decode cX12_init 105 = .ok (.putfield 123, 3) := by decide +kernel
theorem dX12_init_108 : decode cX12_init 108 = .ok (.aload_n 0, 1) := by decide +kernel
theorem dX12_init_109 : decode cX12_init 109 = .ok (.sipush 800, 3) := by decide +kernel
theorem dX12_init_112 : decode cX12_init 112 = .ok (.newarray .long, 2) := by decide +kernel
theorem dX12_init_114 : decode cX12_init 114 = .ok (.putfield 126, 3) := by decide +kernel
theorem dX12_init_117 : decode cX12_init 117 = .ok (.aload_n 0, 1) := by decide +kernel
theorem dX12_init_118 : decode cX12_init 118 = .ok (.sipush 800, 3) := by decide +kernel
theorem dX12_init_121 : decode cX12_init 121 = .ok (.newarray .long, 2) := by decide +kernel
theorem dX12_init_123 : decode cX12_init 123 = .ok (.putfield 130, 3) := by decide +kernel
theorem dX12_init_126 : decode cX12_init 126 = .ok (.aload_n 0, 1) := by decide +kernel
theorem dX12_init_127 : decode cX12_init 127 = .ok (.sipush 800, 3) := by decide +kernel
theorem dX12_init_130 : decode cX12_init 130 = .ok (.newarray .long, 2) := by decide +kernel
theorem dX12_init_132 : decode cX12_init 132 = .ok (.putfield 133, 3) := by decide +kernel
theorem dX12_init_135 : decode cX12_init 135 = .ok (.aload_n 0, 1) := by decide +kernel
theorem dX12_init_136 : decode cX12_init 136 = .ok (.sipush 800, 3) := by decide +kernel
theorem dX12_init_139 : decode cX12_init 139 = .ok (.newarray .int, 2) := by decide +kernel
theorem dX12_init_141 : decode cX12_init 141 = .ok (.putfield 136, 3) := by decide +kernel
theorem dX12_init_144 : decode cX12_init 144 = .ok (.aload_n 0, 1) := by decide +kernel
theorem dX12_init_145 : decode cX12_init 145 = .ok (.sipush 800, 3) := by decide +kernel
theorem dX12_init_148 : decode cX12_init 148 = .ok (.newarray .int, 2) := by decide +kernel
theorem dX12_init_150 : decode cX12_init 150 = .ok (.putfield 139, 3) := by decide +kernel
theorem dX12_init_153 : decode cX12_init 153 = .ok (.aload_n 0, 1) := by decide +kernel
theorem dX12_init_154 : decode cX12_init 154 = .ok (.sipush 16000, 3) := by decide +kernel
theorem dX12_init_157 : decode cX12_init 157 = .ok (.newarray .int, 2) := by decide +kernel
theorem dX12_init_159 : decode cX12_init 159 = .ok (.putfield 142, 3) := by decide +kernel
theorem dX12_init_162 : decode cX12_init 162 = .ok (.aload_n 0, 1) := by decide +kernel
theorem dX12_init_163 : decode cX12_init 163 = .ok (.sipush 16000, 3) := by decide +kernel
theorem dX12_init_166 : decode cX12_init 166 = .ok (.newarray .int, 2) := by decide +kernel
theorem dX12_init_168 : decode cX12_init 168 = .ok (.putfield 145, 3) := by decide +kernel
theorem dX12_init_171 : decode cX12_init 171 = .ok (.aload_n 0, 1) := by decide +kernel
theorem dX12_init_172 : decode cX12_init 172 = .ok (.iconst 2, 1) := by decide +kernel
theorem dX12_init_173 : decode cX12_init 173 = .ok (.newarray .int, 2) := by decide +kernel
theorem dX12_init_175 : decode cX12_init 175 = .ok (.putfield 148, 3) := by decide +kernel
theorem dX12_init_178 : decode cX12_init 178 = .ok (.aload_n 0, 1) := by decide +kernel
theorem dX12_init_179 : decode cX12_init 179 = .ok (.iconst 2, 1) := by decide +kernel
theorem dX12_init_180 : decode cX12_init 180 = .ok (.newarray .long, 2) := by decide +kernel
theorem dX12_init_182 : decode cX12_init 182 = .ok (.putfield 151, 3) := by decide +kernel
theorem dX12_init_185 : decode cX12_init 185 = .ok (.aload_n 0, 1) := by decide +kernel
theorem dX12_init_186 : decode cX12_init 186 = .ok (.iconst 4, 1) := by decide +kernel
theorem dX12_init_187 : decode cX12_init 187 = .ok (.newarray .int, 2) := by decide +kernel
theorem dX12_init_189 : decode cX12_init 189 = .ok (.putfield 154, 3) := by decide +kernel
theorem dX12_init_192 : decode cX12_init 192 = .ok (.aload_n 0, 1) := by decide +kernel
theorem dX12_init_193 : decode cX12_init 193 = .ok (.bipush 40, 2) := by decide +kernel
theorem dX12_init_195 : decode cX12_init 195 = .ok (.newarray .int, 2) := by decide +kernel
theorem dX12_init_197 : decode cX12_init 197 = .ok (.putfield 157, 3) := by decide +kernel
theorem dX12_init_200 : decode cX12_init 200 = .ok (.aload_n 0, 1) := by decide +kernel
theorem dX12_init_201 : decode cX12_init 201 = .ok (.bipush 40, 2) := by decide +kernel
theorem dX12_init_203 : decode cX12_init 203 = .ok (.newarray .int, 2) := by decide +kernel
theorem dX12_init_205 : decode cX12_init 205 = .ok (.putfield 160, 3) := by decide +kernel
theorem dX12_init_208 : decode cX12_init 208 = .ok (.aload_n 0, 1) := by decide +kernel
theorem dX12_init_209 : decode cX12_init 209 = .ok (.bipush 40, 2) := by decide +kernel
theorem dX12_init_211 : decode cX12_init 211 = .ok (.newarray .int, 2) := by decide +kernel
theorem dX12_init_213 : decode cX12_init 213 = .ok (.putfield 163, 3) := by decide +kernel
theorem dX12_init_216 : decode cX12_init 216 = .ok (.aload_n 0, 1) := by decide +kernel
theorem dX12_init_217 : decode cX12_init 217 = .ok (.sipush 800, 3) := by decide +kernel
theorem dX12_init_220 : decode cX12_init 220 = .ok (.newarray .int, 2) := by decide +kernel
theorem dX12_init_222 : decode cX12_init 222 = .ok (.putfield 166, 3) := by decide +kernel
theorem dX12_init_225 : decode cX12_init 225 = .ok (.aload_n 0, 1) := by decide +kernel
theorem dX12_init_226 : decode cX12_init 226 = .ok (.sipush 800, 3) := by decide +kernel
theorem dX12_init_229 : decode cX12_init 229 = .ok (.newarray .int, 2) := by decide +kernel
theorem dX12_init_231 : decode cX12_init 231 = .ok (.putfield 169, 3) := by decide +kernel
theorem dX12_init_234 : decode cX12_init 234 = .ok (.aload_n 0, 1) := by decide +kernel
theorem dX12_init_235 : decode cX12_init 235 = .ok (.iconst 1, 1) := by decide +kernel
theorem dX12_init_236 : decode cX12_init 236 = .ok (.putfield 172, 3) := by decide +kernel
theorem dX12_init_239 : decode cX12_init 239 = .ok (.aload_n 0, 1) := by decide +kernel
theorem dX12_init_240 : decode cX12_init 240 = .ok (.bipush 24, 2) := by decide +kernel
theorem dX12_init_242 : decode cX12_init 242 = .ok (.newarray .int, 2) := by decide +kernel
theorem dX12_init_244 : decode cX12_init 244 = .ok (.putfield 175, 3) := by decide +kernel
theorem dX12_init_247 : decode cX12_init 247 = .ok (.aload_n 0, 1) := by decide +kernel
theorem dX12_init_248 : decode cX12_init 248 = .ok (.bipush 24, 2) := by decide +kernel
theorem dX12_init_250 : decode cX12_init 250 = .ok (.newarray .int, 2) := by decide +kernel
theorem dX12_init_252 : decode cX12_init 252 = .ok (.putfield 178, 3) := by decide +kernel
theorem dX12_init_255 : decode cX12_init 255 = .ok (.aload_n 0, 1) := by decide +kernel
theorem dX12_init_256 : decode cX12_init 256 = .ok (.bipush 24, 2) := by decide +kernel
theorem dX12_init_258 : decode cX12_init 258 = .ok (.newarray .int, 2) := by decide +kernel
theorem dX12_init_260 : decode cX12_init 260 = .ok (.putfield 181, 3) := by decide +kernel
theorem dX12_init_263 : decode cX12_init 263 = .ok (.aload_n 0, 1) := by decide +kernel
theorem dX12_init_264 : decode cX12_init 264 = .ok (.bipush 24, 2) := by decide +kernel
theorem dX12_init_266 : decode cX12_init 266 = .ok (.newarray .int, 2) := by decide +kernel
theorem dX12_init_268 : decode cX12_init 268 = .ok (.putfield 184, 3) := by decide +kernel
