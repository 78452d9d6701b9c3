theorem dX5_fillWeights_36 : decode cX5_fillWeights 36 = .ok (.laload, 1) := by decide +kernel
theorem dX5_fillWeights_37 : decode cX5_fillWeights 37 = .ok (.lmul, 1) := by decide +kernel
theorem dX5_fillWeights_38 : decode cX5_fillWeights 38 = .ok (.lstore_n 2, 1) := by decide +kernel
theorem dX5_fillWeights_39 : decode cX5_fillWeights 39 = .ok (.lload_n 2, 1) := by decide +kernel
theorem dX5_fillWeights_40 : decode cX5_fillWeights 40 = .ok (.invokestatic 203, 3) := by decide +kernel
theorem dX5_fillWeights_43 : decode cX5_fillWeights 43 = .ok (.ldc2_w 124, 3) := by decide +kernel
theorem dX5_fillWeights_46 : decode cX5_fillWeights 46 = .ok (.lcmp, 1) := by decide +kernel
theorem dX5_fillWeights_47 : decode cX5_fillWeights 47 = .ok (.ifCond .lt 5, 3) := by decide +kernel
theorem dX5_fillWeights_50 : decode cX5_fillWeights 50 = .ok (.iconst 0, 1) := by decide +kernel
theorem dX5_fillWeights_51 : decode cX5_fillWeights 51 = .ok (.ireturn, 1) := by decide +kernel
theorem dX5_fillWeights_52 : decode cX5_fillWeights 52 = .ok (.aload_n 0, 1) := by decide +kernel
theorem dX5_fillWeights_53 : decode cX5_fillWeights 53 = .ok (.getfield 28, 3) := by decide +kernel
theorem dX5_fillWeights_56 : decode cX5_fillWeights 56 = .ok (.getfield 153, 3) := by decide +kernel
theorem dX5_fillWeights_59 : decode cX5_fillWeights 59 = .ok (.iconst 0, 1) := by decide +kernel
theorem dX5_fillWeights_60 : decode cX5_fillWeights 60 = .ok (.aaload, 1) := by decide +kernel
theorem dX5_fillWeights_61 : decode cX5_fillWeights 61 = .ok (.aload_n 0, 1) := by decide +kernel
theorem dX5_fillWeights_62 : decode cX5_fillWeights 62 = .ok (.getfield 57, 3) := by decide +kernel
theorem dX5_fillWeights_65 : decode cX5_fillWeights 65 = .ok (.iload_n 1, 1) := by decide +kernel
theorem dX5_fillWeights_66 : decode cX5_fillWeights 66 = .ok (.iaload, 1) := by decide +kernel
theorem dX5_fillWeights_67 : decode cX5_fillWeights 67 = .ok (.invokevirtual 207, 3) := by decide +kernel
theorem dX5_fillWeights_70 : decode cX5_fillWeights 70 = .ok (.istore 4, 2) := by decide +kernel
theorem dX5_fillWeights_72 : decode cX5_fillWeights 72 = .ok (.aload_n 0, 1) := by decide +kernel
theorem dX5_fillWeights_73 : decode cX5_fillWeights 73 = .ok (.getfield 28, 3) := by decide +kernel
theorem dX5_fillWeights_76 : decode cX5_fillWeights 76 = .ok (.getfield 153, 3) := by decide +kernel
theorem dX5_fillWeights_79 : decode cX5_fillWeights 79 = .ok (.iconst 1, 1) := by decide +kernel
theorem dX5_fillWeights_80 : decode cX5_fillWeights 80 = .ok (.aaload, 1) := by decide +kernel
theorem dX5_fillWeights_81 : decode cX5_fillWeights 81 = .ok (.aload_n 0, 1) := by decide +kernel
theorem dX5_fillWeights_82 : decode cX5_fillWeights 82 = .ok (.getfield 61, 3) := by decide +kernel
theorem dX5_fillWeights_85 : decode cX5_fillWeights 85 = .ok (.iload_n 1, 1) := by decide +kernel
theorem dX5_fillWeights_86 : decode cX5_fillWeights 86 = .ok (.iaload, 1) := by decide +kernel
theorem dX5_fillWeights_87 : decode cX5_fillWeights 87 = .ok (.invokevirtual 207, 3) := by decide +kernel
theorem dX5_fillWeights_90 : decode cX5_fillWeights 90 = .ok (.istore 5, 2) := by decide +kernel
theorem dX5_fillWeights_92 : decode cX5_fillWeights 92 = .ok (.aload_n 0, 1) := by decide +kernel
theorem dX5_fillWeights_93 : decode cX5_fillWeights 93 = .ok (.getfield 28, 3) := by decide +kernel
theorem dX5_fillWeights_96 : decode cX5_fillWeights 96 = .ok (.getfield 210, 3) := by decide +kernel
theorem dX5_fillWeights_99 : decode cX5_fillWeights 99 = .ok (.iload 4, 2) := by decide +kernel
theorem dX5_fillWeights_101 : decode cX5_fillWeights 101 = .ok (.aaload, 1) := by decide +kernel
theorem dX5_fillWeights_102 : decode cX5_fillWeights 102 = .ok (.iload 5, 2) := by decide +kernel
theorem dX5_fillWeights_104 : decode cX5_fillWeights 104 = .ok (.dup2, 1) := by decide +kernel
theorem dX5_fillWeights_105 : decode cX5_fillWeights 105 = .ok (.laload, 1) := by decide +kernel
theorem dX5_fillWeights_106 : decode cX5_fillWeights 106 = .ok (.lload_n 2, 1) := by decide +kernel
theorem dX5_fillWeights_107 : decode cX5_fillWeights 107 = .ok (.ladd, 1) := by decide +kernel
theorem dX5_fillWeights_108 : decode cX5_fillWeights 108 = .ok (.lastore, 1) := by decide +kernel
theorem dX5_fillWeights_109 : decode cX5_fillWeights 109 = .ok (.iinc 1 1, 3) := by decide +kernel
theorem dX5_fillWeights_112 : decode cX5_fillWeights 112 = .ok (.goto (-110), 3) := by decide +kernel
theorem dX5_fillWeights_115 : decode cX5_fillWeights 115 = .ok (.iconst 1, 1) := by decide +kernel
theorem dX5_fillWeights_116 : decode cX5_fillWeights 116 = .ok (.ireturn, 1) := by decide +kernel
set_option maxRecDepth 20000 in
theorem ggX6_init_X0_init : GoodIn wsX6_init wsX0_init := goodIn_s _ [(16, 2), (2, 2), (18, 2), (4, 1), (20, 1), (26, 3)] rfl (by decide +kernel)
set_option maxRecDepth 20000 in
theorem gX6_init_X0_init : GoodIn wsX6_init (wsX0_init) := ggX6_init_X0_init
theorem dX6_init_0 : decode cX6_init 0 = .ok (.aload_n 0, 1) := by decide +kernel
theorem dX6_init_1 : decode cX6_init 1 = .ok (.invokespecial 3, 3) := by decide +kernel
theorem dX6_init_4 : decode cX6_init 4 = .ok (.aload_n 0, 1) := by decide +kernel
theorem dX6_init_5 : decode cX6_init 5 = .ok (.bipush 10, 2) := by decide +kernel
theorem dX6_init_7 : decode cX6_init 7 = .ok (.newarray .int, 2) := by decide +kernel
theorem dX6_init_9 : decode cX6_init 9 = .ok (.putfield 9, 3) := by decide +kernel
theorem dX6_init_12 : decode cX6_init 12 = .ok (.aload_n 0, 1) := by decide +kernel
theorem dX6_init_13 : decode cX6_init 13 = .ok (.bipush 10, 2) := by decide +kernel
theorem dX6_init_15 : decode cX6_init 15 = .ok (.newarray .boolean, 2) := by decide +kernel
theorem dX6_init_17 : decode cX6_init 17 = .ok (.putfield 15, 3) := by decide +kernel
theorem dX6_init_20 : decode cX6_init 20 = .ok (.aload_n 0, 1) := by decide +kernel
theorem dX6_init_21 : decode cX6_init 21 = .ok (.bipush 20, 2) := by decide +kernel
theorem dX6_init_23 : decode cX6_init 23 = .ok (.anewarray 19, 3) := by decide +kernel
theorem dX6_init_26 : decode cX6_init 26 = .ok (.putfield 21, 3) := by decide +kernel
theorem dX6_init_29 : decode cX6_init 29 = .ok (.aload_n 0, 1) := by decide +kernel
theorem dX6_init_30 : decode cX6_init 30 = .ok (.new 19, 3) := by decide +kernel
theorem dX6_init_33 : decode cX6_init 33 = .ok (.dup, 1) := by decide +kernel
theorem dX6_init_34 : decode cX6_init 34 = .ok (.iconst 2, 1) := by decide +kernel
theorem dX6_init_35 : decode cX6_init 35 = .ok (.invokespecial 25, 3) := by decide +kernel
theorem dX6_init_38 : decode cX6_init 38 = .ok (.putfield 28, 3) := by decide +kernel
theorem dX6_init_41 : decode cX6_init 41 = .ok (.aload_n 0, 1) := by decide +kernel
theorem dX6_init_42 : decode cX6_init 42 = .ok (.new 19, 3) := by decide +kernel
theorem dX6_init_45 : decode cX6_init 45 = .ok (.dup, 1) := by decide +kernel
theorem dX6_init_46 : decode cX6_init 46 = .ok (.bipush 64, 2) := by decide +kernel
theorem dX6_init_48 : decode cX6_init 48 = .ok (.invokespecial 25, 3) := by decide +kernel
theorem dX6_init_51 : decode cX6_init 51 = .ok (.putfield 32, 3) := by decide +kernel
theorem dX6_init_54 : decode cX6_init 54 = .ok (.iconst 0, 1) := by decide +kernel
theorem dX6_init_55 : decode cX6_init 55 = .ok (.istore_n 1, 1) := by decide +kernel
theorem dX6_init_56 : decode cX6_init 56 = .ok (.iload_n 1, 1) := by decide +kernel
theorem dX6_init_57 : decode cX6_init 57 = .ok (.bipush 20, 2) := by decide +kernel
theorem dX6_init_59 : decode cX6_init 59 = .ok (.if_icmp .ge 24, 3) := by decide +kernel
theorem dX6_init_62 : decode cX6_init 62 = .ok (.aload_n 0, 1) := by decide +kernel
theorem dX6_init_63 : decode cX6_init 63 = .ok (.getfield 21, 3) := by decide +kernel
theorem dX6_init_66 : decode cX6_init 66 = .ok (.iload_n 1, 1) := by decide +kernel
theorem dX6_init_67 : decode cX6_init 67 = .ok (.new 19, 3) := by decide +kernel
theorem dX6_init_70 : decode cX6_init 70 = .ok (.dup, 1) := by decide +kernel
theorem dX6_init_71 : decode cX6_init 71 = .ok (.bipush 32, 2) := by decide +kernel
theorem dX6_init_73 : decode cX6_init 73 = .ok (.invokespecial 25, 3) := by decide +kernel
theorem dX6_init_76 : decode cX6_init 76 = .ok (.aastore, 1) := by decide +kernel
theorem dX6_init_77 : decode cX6_init 77 = .ok (.iinc 1 1, 3) := by decide +kernel
theorem dX6_init_80 : decode cX6_init 80 = .ok (.goto (-24), 3) := by decide +kernel
theorem dX6_init_83 : decode cX6_init 83 = .ok (.return_, 1) := by decide +kernel
theorem dX6_worth_0 : decode cX6_worth 0 = .ok (.aload_n 0, 1) := by decide +kernel
theorem dX6_worth_1 : decode cX6_worth 1 = .ok (.getfield 21, 3) := by decide +kernel
theorem dX6_worth_4 : decode cX6_worth 4 = .ok (.iconst 0, 1) := by decide +kernel
theorem dX6_worth_5 : decode cX6_worth 5 = .ok (.aaload, 1) := by decide +kernel
theorem dX6_worth_6 : decode cX6_worth 6 = .ok (.areturn, 1) := by decide +kernel
set_option maxRecDepth 20000 in
theorem ggX6_meet_X6_gather : GoodIn wsX6_meet wsX6_gather := goodIn_s _ [(10, 1), (1, 2), (4, 1), (11, 1), (3, 1), (5, 1), (12, 84)] rfl (by decide +kernel)
set_option maxRecDepth 20000 in
theorem gX6_meet_X6_gather : GoodIn wsX6_meet (wsV RX6 35 RX6 yX6_gather wsX6_gather) := goodIn_app (goodIn_r _ [6, 7, 8, 9] rfl (by decide +kernel)) ggX6_meet_X6_gather
set_option maxRecDepth 20000 in
theorem ggX6_meet_X0_put : GoodIn wsX6_meet wsX0_put := goodIn_s _ [(19, 4), (93, 3)] rfl (by decide +kernel)
set_option maxRecDepth 20000 in
theorem gX6_meet_X0_put : GoodIn wsX6_meet (wsV RX6 39 RX0 yX0_put wsX0_put) := goodIn_app (goodIn_r _ [15, 16, 17, 18] rfl (by decide +kernel)) ggX6_meet_X0_put
set_option maxRecDepth 20000 in
theorem ggX6_meet_X0_putProduct : GoodIn wsX6_meet wsX0_putProduct := goodIn_s _ [(32, 1), (21, 2), (33, 4), (20, 1), (37, 3), (18, 1), (40, 10), (93, 3)] rfl (by decide +kernel)
set_option maxRecDepth 20000 in
theorem gX6_meet_X0_putProduct : GoodIn wsX6_meet (wsV RX6 60 RX0 yX0_putProduct wsX0_putProduct) := goodIn_app (goodIn_r _ [29, 30, 31, 18] rfl (by decide +kernel)) ggX6_meet_X0_putProduct
set_option maxRecDepth 20000 in
theorem ggX6_meet_X0_plus : GoodIn wsX6_meet wsX0_plus := goodIn_s _ [(53, 1), (21, 1), (20, 1), (54, 3), (18, 1), (57, 1), (22, 1), (33, 4), (58, 8), (41, 1), (66, 4), (37, 4), (70, 4), (46, 4), (93, 3)] rfl (by decide +kernel)
set_option maxRecDepth 20000 in
theorem gX6_meet_X0_plus : GoodIn wsX6_meet (wsV RX6 64 RX0 yX0_plus wsX0_plus) := goodIn_app (goodIn_r _ [50, 51, 52, 18] rfl (by decide +kernel)) ggX6_meet_X0_plus
theorem dX6_meet_0 : decode cX6_meet 0 = .ok (.aload_n 0, 1) := by decide +kernel
theorem dX6_meet_1 : decode cX6_meet 1 = .ok (.aload_n 1, 1) := by decide +kernel
theorem dX6_meet_2 : decode cX6_meet 2 = .ok (.iconst 0, 1) := by decide +kernel
theorem dX6_meet_3 : decode cX6_meet 3 = .ok (.aload_n 3, 1) := by decide +kernel
theorem dX6_meet_4 : decode cX6_meet 4 = .ok (.invokevirtual 35, 3) := by decide +kernel
theorem dX6_meet_7 : decode cX6_meet 7 = .ok (.aload 4, 2) := by decide +kernel
theorem dX6_meet_9 : decode cX6_meet 9 = .ok (.lconst 0, 1) := by decide +kernel
theorem dX6_meet_10 : decode cX6_meet 10 = .ok (.invokevirtual 39, 3) := by decide +kernel
theorem dX6_meet_13 : decode cX6_meet 13 = .ok (.iconst 0, 1) := by decide +kernel
theorem dX6_meet_14 : decode cX6_meet 14 = .ok (.istore 5, 2) := by decide +kernel
theorem dX6_meet_16 : decode cX6_meet 16 = .ok (.iload 5, 2) := by decide +kernel
theorem dX6_meet_18 : decode cX6_meet 18 = .ok (.aload_n 1, 1) := by decide +kernel
theorem dX6_meet_19 : decode cX6_meet 19 = .ok (.getfield 43, 3) := by decide +kernel
theorem dX6_meet_22 : decode cX6_meet 22 = .ok (.iconst 0, 1) := by decide +kernel
theorem dX6_meet_23 : decode cX6_meet 23 = .ok (.aaload, 1) := by decide +kernel
theorem dX6_meet_24 : decode cX6_meet 24 = .ok (.getfield 49, 3) := by decide +kernel
theorem dX6_meet_27 : decode cX6_meet 27 = .ok (.if_icmp .ge 39, 3) := by decide +kernel
theorem dX6_meet_30 : decode cX6_meet 30 = .ok (.aload_n 0, 1) := by decide +kernel
theorem dX6_meet_31 : decode cX6_meet 31 = .ok (.getfield 32, 3) := by decide +kernel
theorem dX6_meet_34 : decode cX6_meet 34 = .ok (.aload_n 0, 1) := by decide +kernel
theorem dX6_meet_35 : decode cX6_meet 35 = .ok (.getfield 21, 3) := by decide +kernel
theorem dX6_meet_38 : decode cX6_meet 38 = .ok (.iload 5, 2) := by decide +kernel
theorem dX6_meet_40 : decode cX6_meet 40 = .ok (.aaload, 1) := by decide +kernel
theorem dX6_meet_41 : decode cX6_meet 41 = .ok (.aload_n 2, 1) := by decide +kernel
theorem dX6_meet_42 : decode cX6_meet 42 = .ok (.getfield 55, 3) := by decide +kernel
theorem dX6_meet_45 : decode cX6_meet 45 = .ok (.iload 5, 2) := by decide +kernel
theorem dX6_meet_47 : decode cX6_meet 47 = .ok (.aaload, 1) := by decide +kernel
theorem dX6_meet_48 : decode cX6_meet 48 = .ok (.invokevirtual 60, 3) := by decide +kernel
theorem dX6_meet_51 : decode cX6_meet 51 = .ok (.aload 4, 2) := by decide +kernel
theorem dX6_meet_53 : decode cX6_meet 53 = .ok (.aload_n 0, 1) := by decide +kernel
theorem dX6_meet_54 : decode cX6_meet 54 = .ok (.getfield 32, 3) := by decide +kernel
theorem dX6_meet_57 : decode cX6_meet 57 = .ok (.invokevirtual 64, 3) := by decide +kernel
theorem dX6_meet_60 : decode cX6_meet 60 = .ok (.iinc 5 1, 3) := by decide +kernel
theorem dX6_meet_63 : decode cX6_meet 63 = .ok (.goto (-47), 3) := by decide +kernel
theorem dX6_meet_66 : decode cX6_meet 66 = .ok (.return_, 1) := by decide +kernel
set_option maxRecDepth 20000 in
theorem ggX6_work_X6_gather : GoodIn wsX6_work wsX6_gather := goodIn_s _ [(11, 1), (1, 1), (12, 1), (4, 1), (13, 65), (104, 22)] rfl (by decide +kernel)
set_option maxRecDepth 20000 in
theorem gX6_work_X6_gather : GoodIn wsX6_work (wsV RX6 35 RX6 yX6_gather wsX6_gather) := goodIn_app (goodIn_r _ [7, 8, 9, 10] rfl (by decide +kernel)) ggX6_work_X6_gather
set_option maxRecDepth 20000 in
theorem ggX6_work_X6_bestMove : GoodIn wsX6_work wsX6_bestMove := goodIn_s _ [(81, 2), (4, 1), (6, 1), (83, 3), (22, 1), (86, 1), (24, 1), (87, 4), (25, 1), (70, 4), (26, 1), (41, 5), (108, 13), (123, 3)] rfl (by decide +kernel)
set_option maxRecDepth 20000 in
theorem gX6_work_X6_bestMove : GoodIn wsX6_work (wsV RX6 71 RX6 yX6_bestMove wsX6_bestMove) := goodIn_app (goodIn_r _ [78, 79, 80, 10] rfl (by decide +kernel)) ggX6_work_X6_bestMove
set_option maxRecDepth 20000 in
theorem ggX6_work_X0_plus : GoodIn wsX6_work wsX0_plus := goodIn_s _ [(57, 1), (25, 1), (24, 1), (58, 3), (22, 1), (61, 1), (26, 1), (37, 4), (62, 8), (45, 1), (70, 4), (41, 4), (74, 4), (50, 4), (123, 3)] rfl (by decide +kernel)
set_option maxRecDepth 20000 in
theorem gX6_work_X0_plus : GoodIn wsX6_work (wsV RX6 64 RX0 yX0_plus wsX0_plus) := goodIn_app (goodIn_r _ [54, 55, 56, 22] rfl (by decide +kernel)) ggX6_work_X0_plus
set_option maxRecDepth 20000 in
theorem ggX6_work_X6_dropUnreached : GoodIn wsX6_work wsX6_dropUnreached := goodIn_s _ [(94, 1), (2, 1), (95, 2), (3, 1), (97, 7), (108, 13)] rfl (by decide +kernel)
set_option maxRecDepth 20000 in
theorem gX6_work_X6_dropUnreached : GoodIn wsX6_work (wsV RX6 81 RX6 yX6_dropUnreached wsX6_dropUnreached) := goodIn_app (goodIn_r _ [91, 92, 93, 10] rfl (by decide +kernel)) ggX6_work_X6_dropUnreached
theorem dX6_work_0 : decode cX6_work 0 = .ok (.aload_n 0, 1) := by decide +kernel
theorem dX6_work_1 : decode cX6_work 1 = .ok (.aload_n 1, 1) := by decide +kernel
theorem dX6_work_2 : decode cX6_work 2 = .ok (.iload_n 2, 1) := by decide +kernel
theorem dX6_work_3 : decode cX6_work 3 = .ok (.aload_n 3, 1) := by decide +kernel
theorem dX6_work_4 : decode cX6_work 4 = .ok (.invokevirtual 35, 3) := by decide +kernel
theorem dX6_work_7 : decode cX6_work 7 = .ok (.aload_n 1, 1) := by decide +kernel
theorem dX6_work_8 : decode cX6_work 8 = .ok (.getfield 43, 3) := by decide +kernel
theorem dX6_work_11 : decode cX6_work 11 = .ok (.iload_n 2, 1) := by decide +kernel
theorem dX6_work_12 : decode cX6_work 12 = .ok (.aaload, 1) := by decide +kernel
theorem dX6_work_13 : decode cX6_work 13 = .ok (.astore 4, 2) := by decide +kernel
theorem dX6_work_15 : decode cX6_work 15 = .ok (.aload 4, 2) := by decide +kernel
theorem dX6_work_17 : decode cX6_work 17 = .ok (.getfield 68, 3) := by decide +kernel
theorem dX6_work_20 : decode cX6_work 20 = .ok (.iconst 1, 1) := by decide +kernel
theorem dX6_work_21 : decode cX6_work 21 = .ok (.isub, 1) := by decide +kernel
theorem dX6_work_22 : decode cX6_work 22 = .ok (.istore 5, 2) := by decide +kernel
theorem dX6_work_24 : decode cX6_work 24 = .ok (.iload 5, 2) := by decide +kernel
theorem dX6_work_26 : decode cX6_work 26 = .ok (.ifCond .lt 70, 3) := by decide +kernel
theorem dX6_work_29 : decode cX6_work 29 = .ok (.aload_n 0, 1) := by decide +kernel
theorem dX6_work_30 : decode cX6_work 30 = .ok (.getfield 9, 3) := by decide +kernel
theorem dX6_work_33 : decode cX6_work 33 = .ok (.iload 5, 2) := by decide +kernel
theorem dX6_work_35 : decode cX6_work 35 = .ok (.aload_n 0, 1) := by decide +kernel
theorem dX6_work_36 : decode cX6_work 36 = .ok (.aload 4, 2) := by decide +kernel
theorem dX6_work_38 : decode cX6_work 38 = .ok (.iload 5, 2) := by decide +kernel
theorem dX6_work_40 : decode cX6_work 40 = .ok (.iload_n 2, 1) := by decide +kernel
theorem dX6_work_41 : decode cX6_work 41 = .ok (.ifCond .ne 7, 3) := by decide +kernel
theorem dX6_work_44 : decode cX6_work 44 = .ok (.iconst 1, 1) := by decide +kernel
theorem dX6_work_45 : decode cX6_work 45 = .ok (.goto 4, 3) := by decide +kernel
theorem dX6_work_48 : decode cX6_work 48 = .ok (.iconst (-1), 1) := by decide +kernel
theorem dX6_work_49 : decode cX6_work 49 = .ok (.invokevirtual 71, 3) := by decide +kernel
theorem dX6_work_52 : decode cX6_work 52 = .ok (.iastore, 1) := by decide +kernel
theorem dX6_work_53 : decode cX6_work 53 = .ok (.aload_n 0, 1) := by decide +kernel
theorem dX6_work_54 : decode cX6_work 54 = .ok (.getfield 21, 3) := by decide +kernel
theorem dX6_work_57 : decode cX6_work 57 = .ok (.aload 4, 2) := by decide +kernel
theorem dX6_work_59 : decode cX6_work 59 = .ok (.getfield 75, 3) := by decide +kernel
theorem dX6_work_62 : decode cX6_work 62 = .ok (.iload 5, 2) := by decide +kernel
theorem dX6_work_64 : decode cX6_work 64 = .ok (.iaload, 1) := by decide +kernel
theorem dX6_work_65 : decode cX6_work 65 = .ok (.aaload, 1) := by decide +kernel
theorem dX6_work_66 : decode cX6_work 66 = .ok (.aload_n 0, 1) := by decide +kernel
theorem dX6_work_67 : decode cX6_work 67 = .ok (.getfield 21, 3) := by decide +kernel
theorem dX6_work_70 : decode cX6_work 70 = .ok (.aload 4, 2) := by decide +kernel
theorem dX6_work_72 : decode cX6_work 72 = .ok (.getfield 78, 3) := by decide +kernel
theorem dX6_work_75 : decode cX6_work 75 = .ok (.iload 5, 2) := by decide +kernel
theorem dX6_work_77 : decode cX6_work 77 = .ok (.iaload, 1) := by decide +kernel
theorem dX6_work_78 : decode cX6_work 78 = .ok (.aload_n 0, 1) := by decide +kernel
theorem dX6_work_79 : decode cX6_work 79 = .ok (.getfield 9, 3) := by decide +kernel
theorem dX6_work_82 : decode cX6_work 82 = .ok (.iload 5, 2) := by decide +kernel
theorem dX6_work_84 : decode cX6_work 84 = .ok (.iaload, 1) := by decide +kernel
theorem dX6_work_85 : decode cX6_work 85 = .ok (.iadd, 1) := by decide +kernel
theorem dX6_work_86 : decode cX6_work 86 = .ok (.aaload, 1) := by decide +kernel
theorem dX6_work_87 : decode cX6_work 87 = .ok (.invokevirtual 64, 3) := by decide +kernel
theorem dX6_work_90 : decode cX6_work 90 = .ok (.iinc 5 (-1), 3) := by decide +kernel
theorem dX6_work_93 : decode cX6_work 93 = .ok (.goto (-69), 3) := by decide +kernel
theorem dX6_work_96 : decode cX6_work 96 = .ok (.aload_n 0, 1) := by decide +kernel
theorem dX6_work_97 : decode cX6_work 97 = .ok (.aload 4, 2) := by decide +kernel
theorem dX6_work_99 : decode cX6_work 99 = .ok (.invokevirtual 81, 3) := by decide +kernel
theorem dX6_work_102 : decode cX6_work 102 = .ok (.return_, 1) := by decide +kernel
set_option maxRecDepth 20000 in
theorem ggX6_gather_X11_other : GoodIn wsX6_gather wsX11_other := goodIn_r _ [9] rfl (by decide +kernel)
set_option maxRecDepth 20000 in
theorem gX6_gather_X11_other_n85 : GoodIn wsX6_gather (wsX11_other) := ggX6_gather_X11_other
set_option maxRecDepth 20000 in
theorem ggX6_gather_X0_put : GoodIn wsX6_gather wsX0_put := goodIn_s _ [(14, 4), (88, 3)] rfl (by decide +kernel)
set_option maxRecDepth 20000 in
theorem gX6_gather_X0_put : GoodIn wsX6_gather (wsV RX6 39 RX0 yX0_put wsX0_put) := goodIn_app (goodIn_r _ [10, 11, 12, 13] rfl (by decide +kernel)) ggX6_gather_X0_put
set_option maxRecDepth 20000 in
theorem ggX6_gather_X2_weight : GoodIn wsX6_gather wsX2_weight := goodIn_s _ [(22, 2), (69, 4)] rfl (by decide +kernel)
set_option maxRecDepth 20000 in
theorem gX6_gather_X2_weight : GoodIn wsX6_gather (wsV RX6 89 RX2 yX2_weight wsX2_weight) := goodIn_app (goodIn_r _ [18, 19, 20, 21] rfl (by decide +kernel)) ggX6_gather_X2_weight
set_option maxRecDepth 20000 in
theorem ggX6_gather_X0_putProduct : GoodIn wsX6_gather wsX0_putProduct := goodIn_s _ [(27, 1), (16, 2), (28, 4), (15, 1), (32, 3), (13, 1), (35, 10), (88, 3)] rfl (by decide +kernel)
set_option maxRecDepth 20000 in
theorem gX6_gather_X0_putProduct : GoodIn wsX6_gather (wsV RX6 60 RX0 yX0_putProduct wsX0_putProduct) := goodIn_app (goodIn_r _ [24, 25, 26, 13] rfl (by decide +kernel)) ggX6_gather_X0_putProduct
set_option maxRecDepth 20000 in
theorem ggX6_gather_X0_plus : GoodIn wsX6_gather wsX0_plus := goodIn_s _ [(48, 1), (16, 1), (15, 1), (49, 3), (13, 1), (52, 1), (17, 1), (28, 4), (53, 8), (36, 1), (61, 4), (32, 4), (65, 4), (41, 4), (88, 3)] rfl (by decide +kernel)
set_option maxRecDepth 20000 in
theorem gX6_gather_X0_plus : GoodIn wsX6_gather (wsV RX6 64 RX0 yX0_plus wsX0_plus) := goodIn_app (goodIn_r _ [45, 46, 47, 13] rfl (by decide +kernel)) ggX6_gather_X0_plus
theorem dX6_gather_0 : decode cX6_gather 0 = .ok (.aload_n 1, 1) := by decide +kernel
theorem dX6_gather_1 : decode cX6_gather 1 = .ok (.getfield 43, 3) := by decide +kernel
theorem dX6_gather_4 : decode cX6_gather 4 = .ok (.iload_n 2, 1) := by decide +kernel
theorem dX6_gather_5 : decode cX6_gather 5 = .ok (.invokestatic 85, 3) := by decide +kernel
theorem dX6_gather_8 : decode cX6_gather 8 = .ok (.aaload, 1) := by decide +kernel
theorem dX6_gather_9 : decode cX6_gather 9 = .ok (.getfield 49, 3) := by decide +kernel
theorem dX6_gather_12 : decode cX6_gather 12 = .ok (.istore 4, 2) := by decide +kernel
theorem dX6_gather_14 : decode cX6_gather 14 = .ok (.iconst 0, 1) := by decide +kernel
theorem dX6_gather_15 : decode cX6_gather 15 = .ok (.istore 5, 2) := by decide +kernel
theorem dX6_gather_17 : decode cX6_gather 17 = .ok (.iload 5, 2) := by decide +kernel
theorem dX6_gather_19 : decode cX6_gather 19 = .ok (.aload_n 1, 1) := by decide +kernel
theorem dX6_gather_20 : decode cX6_gather 20 = .ok (.getfield 43, 3) := by decide +kernel
theorem dX6_gather_23 : decode cX6_gather 23 = .ok (.iload_n 2, 1) := by decide +kernel
theorem dX6_gather_24 : decode cX6_gather 24 = .ok (.aaload, 1) := by decide +kernel
theorem dX6_gather_25 : decode cX6_gather 25 = .ok (.getfield 49, 3) := by decide +kernel
theorem dX6_gather_28 : decode cX6_gather 28 = .ok (.if_icmp .ge 95, 3) := by decide +kernel
theorem dX6_gather_31 : decode cX6_gather 31 = .ok (.aload_n 0, 1) := by decide +kernel
theorem dX6_gather_32 : decode cX6_gather 32 = .ok (.getfield 21, 3) := by decide +kernel
theorem dX6_gather_35 : decode cX6_gather 35 = .ok (.iload 5, 2) := by decide +kernel
theorem dX6_gather_37 : decode cX6_gather 37 = .ok (.aaload, 1) := by decide +kernel
theorem dX6_gather_38 : decode cX6_gather 38 = .ok (.lconst 0, 1) := by decide +kernel
theorem dX6_gather_39 : decode cX6_gather 39 = .ok (.invokevirtual 39, 3) := by decide +kernel
theorem dX6_gather_42 : decode cX6_gather 42 = .ok (.iconst 0, 1) := by decide +kernel
theorem dX6_gather_43 : decode cX6_gather 43 = .ok (.istore 6, 2) := by decide +kernel
theorem dX6_gather_45 : decode cX6_gather 45 = .ok (.iload 6, 2) := by decide +kernel
theorem dX6_gather_47 : decode cX6_gather 47 = .ok (.iload 4, 2) := by decide +kernel
theorem dX6_gather_49 : decode cX6_gather 49 = .ok (.if_icmp .ge 68, 3) := by decide +kernel
theorem dX6_gather_52 : decode cX6_gather 52 = .ok (.aload_n 1, 1) := by decide +kernel
theorem dX6_gather_53 : decode cX6_gather 53 = .ok (.iload_n 2, 1) := by decide +kernel
theorem dX6_gather_54 : decode cX6_gather 54 = .ok (.iload 5, 2) := by decide +kernel
theorem dX6_gather_56 : decode cX6_gather 56 = .ok (.iload 6, 2) := by decide +kernel
theorem dX6_gather_58 : decode cX6_gather 58 = .ok (.invokevirtual 89, 3) := by decide +kernel
theorem dX6_gather_61 : decode cX6_gather 61 = .ok (.lstore 7, 2) := by decide +kernel
theorem dX6_gather_63 : decode cX6_gather 63 = .ok (.lload 7, 2) := by decide +kernel
theorem dX6_gather_65 : decode cX6_gather 65 = .ok (.lconst 0, 1) := by decide +kernel
theorem dX6_gather_66 : decode cX6_gather 66 = .ok (.lcmp, 1) := by decide +kernel
theorem dX6_gather_67 : decode cX6_gather 67 = .ok (.ifCond .eq 44, 3) := by decide +kernel
theorem dX6_gather_70 : decode cX6_gather 70 = .ok (.aload_n 0, 1) := by decide +kernel
theorem dX6_gather_71 : decode cX6_gather 71 = .ok (.getfield 28, 3) := by decide +kernel
theorem dX6_gather_74 : decode cX6_gather 74 = .ok (.lload 7, 2) := by decide +kernel
theorem dX6_gather_76 : decode cX6_gather 76 = .ok (.invokevirtual 39, 3) := by decide +kernel
theorem dX6_gather_79 : decode cX6_gather 79 = .ok (.aload_n 0, 1) := by decide +kernel
theorem dX6_gather_80 : decode cX6_gather 80 = .ok (.getfield 32, 3) := by decide +kernel
theorem dX6_gather_83 : decode cX6_gather 83 = .ok (.aload_n 3, 1) := by decide +kernel
theorem dX6_gather_84 : decode cX6_gather 84 = .ok (.getfield 55, 3) := by decide +kernel
theorem dX6_gather_87 : decode cX6_gather 87 = .ok (.iload 6, 2) := by decide +kernel
theorem dX6_gather_89 : decode cX6_gather 89 = .ok (.aaload, 1) := by decide +kernel
theorem dX6_gather_90 : decode cX6_gather 90 = .ok (.aload_n 0, 1) := by decide +kernel
theorem dX6_gather_91 : decode cX6_gather 91 = .ok (.getfield 28, 3) := by decide +kernel
theorem dX6_gather_94 : decode cX6_gather 94 = .ok (.invokevirtual 60, 3) := by decide +kernel
theorem dX6_gather_97 : decode cX6_gather 97 = .ok (.aload_n 0, 1) := by decide +kernel
theorem dX6_gather_98 : decode cX6_gather 98 = .ok (.getfield 21, 3) := by decide +kernel
theorem dX6_gather_101 : decode cX6_gather 101 = .ok (.iload 5, 2) := by decide +kernel
theorem dX6_gather_103 : decode cX6_gather 103 = .ok (.aaload, 1) := by decide +kernel
theorem dX6_gather_104 : decode cX6_gather 104 = .ok (.aload_n 0, 1) := by decide +kernel
theorem dX6_gather_105 : decode cX6_gather 105 = .ok (.getfield 32, 3) := by decide +kernel
theorem dX6_gather_108 : decode cX6_gather 108 = .ok (.invokevirtual 64, 3) := by decide +kernel
theorem dX6_gather_111 : decode cX6_gather 111 = .ok (.iinc 6 1, 3) := by decide +kernel
theorem dX6_gather_114 : decode cX6_gather 114 = .ok (.goto (-69), 3) := by decide +kernel
theorem dX6_gather_117 : decode cX6_gather 117 = .ok (.iinc 5 1, 3) := by decide +kernel
theorem dX6_gather_120 : decode cX6_gather 120 = .ok (.goto (-103), 3) := by decide +kernel
theorem dX6_gather_123 : decode cX6_gather 123 = .ok (.return_, 1) := by decide +kernel
set_option maxRecDepth 20000 in
theorem ggX6_bestMove_X0_order : GoodIn wsX6_bestMove wsX0_order := goodIn_s _ [(8, 5), (7, 1), (13, 12), (38, 3)] rfl (by decide +kernel)
set_option maxRecDepth 20000 in
theorem gX6_bestMove_X0_order : GoodIn wsX6_bestMove (wsV RX6 94 RX0 yX0_order wsX0_order) := goodIn_app (goodIn_r _ [4, 5, 6, 7] rfl (by decide +kernel)) ggX6_bestMove_X0_order
theorem dX6_bestMove_0 : decode cX6_bestMove 0 = .ok (.iconst 0, 1) := by decide +kernel
theorem dX6_bestMove_1 : decode cX6_bestMove 1 = .ok (.istore 4, 2) := by decide +kernel
theorem dX6_bestMove_3 : decode cX6_bestMove 3 = .ok (.iconst 1, 1) := by decide +kernel
theorem dX6_bestMove_4 : decode cX6_bestMove 4 = .ok (.istore 5, 2) := by decide +kernel
theorem dX6_bestMove_6 : decode cX6_bestMove 6 = .ok (.iload 5, 2) := by decide +kernel
theorem dX6_bestMove_8 : decode cX6_bestMove 8 = .ok (.aload_n 1, 1) := by decide +kernel
theorem dX6_bestMove_9 : decode cX6_bestMove 9 = .ok (.getfield 93, 3) := by decide +kernel
theorem dX6_bestMove_12 : decode cX6_bestMove 12 = .ok (.iload_n 2, 1) := by decide +kernel
theorem dX6_bestMove_13 : decode cX6_bestMove 13 = .ok (.iaload, 1) := by decide +kernel
theorem dX6_bestMove_14 : decode cX6_bestMove 14 = .ok (.if_icmp .ge 52, 3) := by decide +kernel
theorem dX6_bestMove_17 : decode cX6_bestMove 17 = .ok (.aload_n 0, 1) := by decide +kernel
theorem dX6_bestMove_18 : decode cX6_bestMove 18 = .ok (.getfield 21, 3) := by decide +kernel
theorem dX6_bestMove_21 : decode cX6_bestMove 21 = .ok (.aload_n 1, 1) := by decide +kernel
theorem dX6_bestMove_22 : decode cX6_bestMove 22 = .ok (.getfield 78, 3) := by decide +kernel
theorem dX6_bestMove_25 : decode cX6_bestMove 25 = .ok (.iload_n 2, 1) := by decide +kernel
theorem dX6_bestMove_26 : decode cX6_bestMove 26 = .ok (.iaload, 1) := by decide +kernel
theorem dX6_bestMove_27 : decode cX6_bestMove 27 = .ok (.iload 5, 2) := by decide +kernel
theorem dX6_bestMove_29 : decode cX6_bestMove 29 = .ok (.iadd, 1) := by decide +kernel
theorem dX6_bestMove_30 : decode cX6_bestMove 30 = .ok (.aaload, 1) := by decide +kernel
theorem dX6_bestMove_31 : decode cX6_bestMove 31 = .ok (.astore 6, 2) := by decide +kernel
theorem dX6_bestMove_33 : decode cX6_bestMove 33 = .ok (.aload 6, 2) := by decide +kernel
theorem dX6_bestMove_35 : decode cX6_bestMove 35 = .ok (.aload_n 0, 1) := by decide +kernel
theorem dX6_bestMove_36 : decode cX6_bestMove 36 = .ok (.getfield 21, 3) := by decide +kernel
theorem dX6_bestMove_39 : decode cX6_bestMove 39 = .ok (.aload_n 1, 1) := by decide +kernel
theorem dX6_bestMove_40 : decode cX6_bestMove 40 = .ok (.getfield 78, 3) := by decide +kernel
theorem dX6_bestMove_43 : decode cX6_bestMove 43 = .ok (.iload_n 2, 1) := by decide +kernel
theorem dX6_bestMove_44 : decode cX6_bestMove 44 = .ok (.iaload, 1) := by decide +kernel
theorem dX6_bestMove_45 : decode cX6_bestMove 45 = .ok (.iload 4, 2) := by decide +kernel
theorem dX6_bestMove_47 : decode cX6_bestMove 47 = .ok (.iadd, 1) := by decide +kernel
theorem dX6_bestMove_48 : decode cX6_bestMove 48 = .ok (.aaload, 1) := by decide +kernel
theorem dX6_bestMove_49 : decode cX6_bestMove 49 = .ok (.invokevirtual 94, 3) := by decide +kernel
theorem dX6_bestMove_52 : decode cX6_bestMove 52 = .ok (.iload_n 3, 1) := by decide +kernel
theorem dX6_bestMove_53 : decode cX6_bestMove 53 = .ok (.if_icmp .ne 7, 3) := by decide +kernel
theorem dX6_bestMove_56 : decode cX6_bestMove 56 = .ok (.iload 5, 2) := by decide +kernel
theorem dX6_bestMove_58 : decode cX6_bestMove 58 = .ok (.istore 4, 2) := by decide +kernel
theorem dX6_bestMove_60 : decode cX6_bestMove 60 = .ok (.iinc 5 1, 3) := by decide +kernel
theorem dX6_bestMove_63 : decode cX6_bestMove 63 = .ok (.goto (-57), 3) := by decide +kernel
theorem dX6_bestMove_66 : decode cX6_bestMove 66 = .ok (.iload 4, 2) := by decide +kernel
theorem dX6_bestMove_68 : decode cX6_bestMove 68 = .ok (.ireturn, 1) := by decide +kernel
set_option maxRecDepth 20000 in
theorem ggX6_dropUnreached_X7_setOf : GoodIn wsX6_dropUnreached wsX7_setOf := goodIn_r _ [8] rfl (by decide +kernel)
set_option maxRecDepth 20000 in
theorem gX6_dropUnreached_X7_setOf : GoodIn wsX6_dropUnreached (va_wsS RX6 101 yX7_setOf wsX7_setOf) := goodIn_app (goodIn_r _ [5, 6, 7] rfl (by decide +kernel)) ggX6_dropUnreached_X7_setOf
set_option maxRecDepth 20000 in
theorem ggX6_dropUnreached_X7_moveOf : GoodIn wsX6_dropUnreached wsX7_moveOf := goodIn_r _ [11] rfl (by decide +kernel)
set_option maxRecDepth 20000 in
theorem gX6_dropUnreached_X7_moveOf : GoodIn wsX6_dropUnreached (va_wsS RX6 104 yX7_moveOf wsX7_moveOf) := goodIn_app (goodIn_r _ [9, 10, 7] rfl (by decide +kernel)) ggX6_dropUnreached_X7_moveOf
theorem dX6_dropUnreached_0 : decode cX6_dropUnreached 0 = .ok (.iconst 0, 1) := by decide +kernel
theorem dX6_dropUnreached_1 : decode cX6_dropUnreached 1 = .ok (.istore_n 2, 1) := by decide +kernel
theorem dX6_dropUnreached_2 : decode cX6_dropUnreached 2 = .ok (.iload_n 2, 1) := by decide +kernel
theorem dX6_dropUnreached_3 : decode cX6_dropUnreached 3 = .ok (.aload_n 1, 1) := by decide +kernel
theorem dX6_dropUnreached_4 : decode cX6_dropUnreached 4 = .ok (.getfield 68, 3) := by decide +kernel
theorem dX6_dropUnreached_7 : decode cX6_dropUnreached 7 = .ok (.if_icmp .ge 76, 3) := by decide +kernel
theorem dX6_dropUnreached_10 : decode cX6_dropUnreached 10 = .ok (.aload_n 1, 1) := by decide +kernel
theorem dX6_dropUnreached_11 : decode cX6_dropUnreached 11 = .ok (.getfield 98, 3) := by decide +kernel
theorem dX6_dropUnreached_14 : decode cX6_dropUnreached 14 = .ok (.iload_n 2, 1) := by decide +kernel
theorem dX6_dropUnreached_15 : decode cX6_dropUnreached 15 = .ok (.iaload, 1) := by decide +kernel
theorem dX6_dropUnreached_16 : decode cX6_dropUnreached 16 = .ok (.istore_n 3, 1) := by decide +kernel
theorem dX6_dropUnreached_17 : decode cX6_dropUnreached 17 = .ok (.aload_n 0, 1) := by decide +kernel
theorem dX6_dropUnreached_18 : decode cX6_dropUnreached 18 = .ok (.getfield 15, 3) := by decide +kernel
theorem dX6_dropUnreached_21 : decode cX6_dropUnreached 21 = .ok (.iload_n 2, 1) := by decide +kernel
theorem dX6_dropUnreached_22 : decode cX6_dropUnreached 22 = .ok (.iload_n 3, 1) := by decide +kernel
theorem dX6_dropUnreached_23 : decode cX6_dropUnreached 23 = .ok (.iconst (-1), 1) := by decide +kernel
theorem dX6_dropUnreached_24 : decode cX6_dropUnreached 24 = .ok (.if_icmp .eq 31, 3) := by decide +kernel
theorem dX6_dropUnreached_27 : decode cX6_dropUnreached 27 = .ok (.aload_n 0, 1) := by decide +kernel
theorem dX6_dropUnreached_28 : decode cX6_dropUnreached 28 = .ok (.getfield 15, 3) := by decide +kernel
theorem dX6_dropUnreached_31 : decode cX6_dropUnreached 31 = .ok (.iload_n 3, 1) := by decide +kernel
theorem dX6_dropUnreached_32 : decode cX6_dropUnreached 32 = .ok (.invokestatic 101, 3) := by decide +kernel
theorem dX6_dropUnreached_35 : decode cX6_dropUnreached 35 = .ok (.baload, 1) := by decide +kernel
theorem dX6_dropUnreached_36 : decode cX6_dropUnreached 36 = .ok (.ifCond .eq 23, 3) := by decide +kernel
theorem dX6_dropUnreached_39 : decode cX6_dropUnreached 39 = .ok (.aload_n 0, 1) := by decide +kernel
theorem dX6_dropUnreached_40 : decode cX6_dropUnreached 40 = .ok (.getfield 9, 3) := by decide +kernel
theorem dX6_dropUnreached_43 : decode cX6_dropUnreached 43 = .ok (.iload_n 3, 1) := by decide +kernel
theorem dX6_dropUnreached_44 : decode cX6_dropUnreached 44 = .ok (.invokestatic 101, 3) := by decide +kernel
theorem dX6_dropUnreached_47 : decode cX6_dropUnreached 47 = .ok (.iaload, 1) := by decide +kernel
theorem dX6_dropUnreached_48 : decode cX6_dropUnreached 48 = .ok (.iload_n 3, 1) := by decide +kernel
theorem dX6_dropUnreached_49 : decode cX6_dropUnreached 49 = .ok (.invokestatic 104, 3) := by decide +kernel
theorem dX6_dropUnreached_52 : decode cX6_dropUnreached 52 = .ok (.if_icmp .ne 7, 3) := by decide +kernel
theorem dX6_dropUnreached_55 : decode cX6_dropUnreached 55 = .ok (.iconst 1, 1) := by decide +kernel
theorem dX6_dropUnreached_56 : decode cX6_dropUnreached 56 = .ok (.goto 4, 3) := by decide +kernel
theorem dX6_dropUnreached_59 : decode cX6_dropUnreached 59 = .ok (.iconst 0, 1) := by decide +kernel
theorem dX6_dropUnreached_60 : decode cX6_dropUnreached 60 = .ok (.bastore, 1) := by decide +kernel
theorem dX6_dropUnreached_61 : decode cX6_dropUnreached 61 = .ok (.aload_n 0, 1) := by decide +kernel
theorem dX6_dropUnreached_62 : decode cX6_dropUnreached 62 = .ok (.getfield 15, 3) := by decide +kernel
theorem dX6_dropUnreached_65 : decode cX6_dropUnreached 65 = .ok (.iload_n 2, 1) := by decide +kernel
theorem dX6_dropUnreached_66 : decode cX6_dropUnreached 66 = .ok (.baload, 1) := by decide +kernel
theorem dX6_dropUnreached_67 : decode cX6_dropUnreached 67 = .ok (.ifCond .ne 10, 3) := by decide +kernel
theorem dX6_dropUnreached_70 : decode cX6_dropUnreached 70 = .ok (.aload_n 0, 1) := by decide +kernel
theorem dX6_dropUnreached_71 : decode cX6_dropUnreached 71 = .ok (.getfield 9, 3) := by decide +kernel
theorem dX6_dropUnreached_74 : decode cX6_dropUnreached 74 = .ok (.iload_n 2, 1) := by decide +kernel
theorem dX6_dropUnreached_75 : decode cX6_dropUnreached 75 = .ok (.iconst 0, 1) := by decide +kernel
theorem dX6_dropUnreached_76 : decode cX6_dropUnreached 76 = .ok (.iastore, 1) := by decide +kernel
theorem dX6_dropUnreached_77 : decode cX6_dropUnreached 77 = .ok (.iinc 2 1, 3) := by decide +kernel
theorem dX6_dropUnreached_80 : decode cX6_dropUnreached 80 = .ok (.goto (-78), 3) := by decide +kernel
theorem dX6_dropUnreached_83 : decode cX6_dropUnreached 83 = .ok (.return_, 1) := by decide +kernel
theorem dX7_init_0 : decode cX7_init 0 = .ok (.aload_n 0, 1) := by decide +kernel
theorem dX7_init_1 : decode cX7_init 1 = .ok (.invokespecial 3, 3) := by decide +kernel
theorem dX7_init_4 : decode cX7_init 4 = .ok (.aload_n 0, 1) := by decide +kernel
theorem dX7_init_5 : decode cX7_init 5 = .ok (.iconst 0, 1) := by decide +kernel
theorem dX7_init_6 : decode cX7_init 6 = .ok (.putfield 9, 3) := by decide +kernel
theorem dX7_init_9 : decode cX7_init 9 = .ok (.aload_n 0, 1) := by decide +kernel
theorem dX7_init_10 : decode cX7_init 10 = .ok (.bipush 10, 2) := by decide +kernel
theorem dX7_init_12 : decode cX7_init 12 = .ok (.newarray .int, 2) := by decide +kernel
theorem dX7_init_14 : decode cX7_init 14 = .ok (.putfield 15, 3) := by decide +kernel
theorem dX7_init_17 : decode cX7_init 17 = .ok (.aload_n 0, 1) := by decide +kernel
theorem dX7_init_18 : decode cX7_init 18 = .ok (.bipush 10, 2) := by decide +kernel
theorem dX7_init_20 : decode cX7_init 20 = .ok (.newarray .int, 2) := by decide +kernel
theorem dX7_init_22 : decode cX7_init 22 = .ok (.putfield 19, 3) := by decide +kernel
theorem dX7_init_25 : decode cX7_init 25 = .ok (.aload_n 0, 1) := by decide +kernel
theorem dX7_init_26 : decode cX7_init 26 = .ok (.bipush 10, 2) := by decide +kernel
theorem dX7_init_28 : decode cX7_init 28 = .ok (.newarray .int, 2) := by decide +kernel
theorem dX7_init_30 : decode cX7_init 30 = .ok (.putfield 22, 3) := by decide +kernel
theorem dX7_init_33 : decode cX7_init 33 = .ok (.aload_n 0, 1) := by decide +kernel
theorem dX7_init_34 : decode cX7_init 34 = .ok (.bipush 10, 2) := by decide +kernel
theorem dX7_init_36 : decode cX7_init 36 = .ok (.newarray .int, 2) := by decide +kernel
theorem dX7_init_38 : decode cX7_init 38 = .ok (.putfield 25, 3) := by decide +kernel
theorem dX7_init_41 : decode cX7_init 41 = .ok (.aload_n 0, 1) := by decide +kernel
theorem dX7_init_42 : decode cX7_init 42 = .ok (.iconst 1, 1) := by decide +kernel
theorem dX7_init_43 : decode cX7_init 43 = .ok (.putfield 28, 3) := by decide +kernel
theorem dX7_init_46 : decode cX7_init 46 = .ok (.aload_n 0, 1) := by decide +kernel
theorem dX7_init_47 : decode cX7_init 47 = .ok (.bipush 10, 2) := by decide +kernel
theorem dX7_init_49 : decode cX7_init 49 = .ok (.newarray .int, 2) := by decide +kernel
theorem dX7_init_51 : decode cX7_init 51 = .ok (.putfield 31, 3) := by decide +kernel
theorem dX7_init_54 : decode cX7_init 54 = .ok (.aload_n 0, 1) := by decide +kernel
theorem dX7_init_55 : decode cX7_init 55 = .ok (.bipush 10, 2) := by decide +kernel
theorem dX7_init_57 : decode cX7_init 57 = .ok (.newarray .int, 2) := by decide +kernel
theorem dX7_init_59 : decode cX7_init 59 = .ok (.putfield 34, 3) := by decide +kernel
theorem dX7_init_62 : decode cX7_init 62 = .ok (.return_, 1) := by decide +kernel
theorem dX7_deed_0 : decode cX7_deed 0 = .ok (.iload_n 0, 1) := by decide +kernel
theorem dX7_deed_1 : decode cX7_deed 1 = .ok (.sipush 512, 3) := by decide +kernel
theorem dX7_deed_4 : decode cX7_deed 4 = .ok (.imul, 1) := by decide +kernel
theorem dX7_deed_5 : decode cX7_deed 5 = .ok (.iload_n 1, 1) := by decide +kernel
theorem dX7_deed_6 : decode cX7_deed 6 = .ok (.iadd, 1) := by decide +kernel
theorem dX7_deed_7 : decode cX7_deed 7 = .ok (.ireturn, 1) := by decide +kernel
theorem dX7_setOf_0 : decode cX7_setOf 0 = .ok (.iload_n 0, 1) := by decide +kernel
theorem dX7_setOf_1 : decode cX7_setOf 1 = .ok (.sipush 512, 3) := by decide +kernel
theorem dX7_setOf_4 : decode cX7_setOf 4 = .ok (.idiv, 1) := by decide +kernel
theorem dX7_setOf_5 : decode cX7_setOf 5 = .ok (.ireturn, 1) := by decide +kernel
theorem dX7_moveOf_0 : decode cX7_moveOf 0 = .ok (.iload_n 0, 1) := by decide +kernel
theorem dX7_moveOf_1 : decode cX7_moveOf 1 = .ok (.sipush 512, 3) := by decide +kernel
theorem dX7_moveOf_4 : decode cX7_moveOf 4 = .ok (.irem, 1) := by decide +kernel
theorem dX7_moveOf_5 : decode cX7_moveOf 5 = .ok (.ireturn, 1) := by decide +kernel
theorem dX7_hasSet_0 : decode cX7_hasSet 0 = .ok (.iload_n 1, 1) := by decide +kernel
theorem dX7_hasSet_1 : decode cX7_hasSet 1 = .ok (.ifCond .lt 15, 3) := by decide +kernel
theorem dX7_hasSet_4 : decode cX7_hasSet 4 = .ok (.iload_n 1, 1) := by decide +kernel
theorem dX7_hasSet_5 : decode cX7_hasSet 5 = .ok (.aload_n 0, 1) := by decide +kernel
theorem dX7_hasSet_6 : decode cX7_hasSet 6 = .ok (.getfield 9, 3) := by decide +kernel
theorem dX7_hasSet_9 : decode cX7_hasSet 9 = .ok (.if_icmp .ge 7, 3) := by decide +kernel
theorem dX7_hasSet_12 : decode cX7_hasSet 12 = .ok (.iconst 1, 1) := by decide +kernel
theorem dX7_hasSet_13 : decode cX7_hasSet 13 = .ok (.goto 4, 3) := by decide +kernel
theorem dX7_hasSet_16 : decode cX7_hasSet 16 = .ok (.iconst 0, 1) := by decide +kernel
theorem dX7_hasSet_17 : decode cX7_hasSet 17 = .ok (.ireturn, 1) := by decide +kernel
set_option maxRecDepth 20000 in
theorem ggX7_hasMove_X7_hasSet : GoodIn wsX7_hasMove wsX7_hasSet := goodIn_s _ [(6, 10)] rfl (by decide +kernel)
set_option maxRecDepth 20000 in
theorem gX7_hasMove_X7_hasSet : GoodIn wsX7_hasMove (wsV RX7 37 RX7 yX7_hasSet wsX7_hasSet) := goodIn_app (goodIn_r _ [2, 3, 4, 5] rfl (by decide +kernel)) ggX7_hasMove_X7_hasSet
theorem dX7_hasMove_0 : decode cX7_hasMove 0 = .ok (.aload_n 0, 1) := by decide +kernel
theorem dX7_hasMove_1 : decode cX7_hasMove 1 = .ok (.iload_n 1, 1) := by decide +kernel
theorem dX7_hasMove_2 : decode cX7_hasMove 2 = .ok (.invokevirtual 37, 3) := by decide +kernel
theorem dX7_hasMove_5 : decode cX7_hasMove 5 = .ok (.ifCond .eq 21, 3) := by decide +kernel
theorem dX7_hasMove_8 : decode cX7_hasMove 8 = .ok (.iload_n 2, 1) := by decide +kernel
theorem dX7_hasMove_9 : decode cX7_hasMove 9 = .ok (.ifCond .lt 17, 3) := by decide +kernel
theorem dX7_hasMove_12 : decode cX7_hasMove 12 = .ok (.iload_n 2, 1) := by decide +kernel
theorem dX7_hasMove_13 : decode cX7_hasMove 13 = .ok (.aload_n 0, 1) := by decide +kernel
theorem dX7_hasMove_14 : decode cX7_hasMove 14 = .ok (.getfield 19, 3) := by decide +kernel
theorem dX7_hasMove_17 : decode cX7_hasMove 17 = .ok (.iload_n 1, 1) := by decide +kernel
theorem dX7_hasMove_18 : decode cX7_hasMove 18 = .ok (.iaload, 1) := by decide +kernel
theorem dX7_hasMove_19 : decode cX7_hasMove 19 = .ok (.if_icmp .ge 7, 3) := by decide +kernel
theorem dX7_hasMove_22 : decode cX7_hasMove 22 = .ok (.iconst 1, 1) := by decide +kernel
theorem dX7_hasMove_23 : decode cX7_hasMove 23 = .ok (.goto 4, 3) := by decide +kernel
theorem dX7_hasMove_26 : decode cX7_hasMove 26 = .ok (.iconst 0, 1) := by decide +kernel
theorem dX7_hasMove_27 : decode cX7_hasMove 27 = .ok (.ireturn, 1) := by decide +kernel
theorem dX7_find_0 : decode cX7_find 0 = .ok (.iconst 0, 1) := by decide +kernel
theorem dX7_find_1 : decode cX7_find 1 = .ok (.istore_n 2, 1) := by decide +kernel
theorem dX7_find_2 : decode cX7_find 2 = .ok (.iload_n 2, 1) := by decide +kernel
theorem dX7_find_3 : decode cX7_find 3 = .ok (.aload_n 0, 1) := by decide +kernel
theorem dX7_find_4 : decode cX7_find 4 = .ok (.getfield 9, 3) := by decide +kernel
theorem dX7_find_7 : decode cX7_find 7 = .ok (.if_icmp .ge 21, 3) := by decide +kernel
theorem dX7_find_10 : decode cX7_find 10 = .ok (.aload_n 0, 1) := by decide +kernel
theorem dX7_find_11 : decode cX7_find 11 = .ok (.getfield 15, 3) := by decide +kernel
theorem dX7_find_14 : decode cX7_find 14 = .ok (.iload_n 2, 1) := by decide +kernel
theorem dX7_find_15 : decode cX7_find 15 = .ok (.iaload, 1) := by decide +kernel
theorem dX7_find_16 : decode cX7_find 16 = .ok (.iload_n 1, 1) := by decide +kernel
theorem dX7_find_17 : decode cX7_find 17 = .ok (.if_icmp .ne 5, 3) := by decide +kernel
theorem dX7_find_20 : decode cX7_find 20 = .ok (.iload_n 2, 1) := by decide +kernel
theorem dX7_find_21 : decode cX7_find 21 = .ok (.ireturn, 1) := by decide +kernel
theorem dX7_find_22 : decode cX7_find 22 = .ok (.iinc 2 1, 3) := by decide +kernel
theorem dX7_find_25 : decode cX7_find 25 = .ok (.goto (-23), 3) := by decide +kernel
theorem dX7_find_28 : decode cX7_find 28 = .ok (.iconst (-1), 1) := by decide +kernel
theorem dX7_find_29 : decode cX7_find 29 = .ok (.ireturn, 1) := by decide +kernel
set_option maxRecDepth 20000 in
theorem ggX7_begin_X7_setOf : GoodIn wsX7_begin wsX7_setOf := goodIn_r _ [13] rfl (by decide +kernel)
set_option maxRecDepth 20000 in
theorem gX7_begin_X7_setOf : GoodIn wsX7_begin (va_wsS RX7 47 yX7_setOf wsX7_setOf) := goodIn_app (goodIn_r _ [10, 11, 12] rfl (by decide +kernel)) ggX7_begin_X7_setOf
theorem dX7_begin_0 : decode cX7_begin 0 = .ok (.aload_n 0, 1) := by decide +kernel
theorem dX7_begin_1 : decode cX7_begin 1 = .ok (.getfield 9, 3) := by decide +kernel
theorem dX7_begin_4 : decode cX7_begin 4 = .ok (.bipush 9, 2) := by decide +kernel
theorem dX7_begin_6 : decode cX7_begin 6 = .ok (.invokestatic 41, 3) := by decide +kernel
theorem dX7_begin_9 : decode cX7_begin 9 = .ok (.istore_n 3, 1) := by decide +kernel
theorem dX7_begin_10 : decode cX7_begin 10 = .ok (.aload_n 0, 1) := by decide +kernel
theorem dX7_begin_11 : decode cX7_begin 11 = .ok (.getfield 15, 3) := by decide +kernel
theorem dX7_begin_14 : decode cX7_begin 14 = .ok (.iload_n 3, 1) := by decide +kernel
