set_option maxRecDepth 20000 in
theorem gX5_init_X10_init_n20 : GoodIn wsX5_init (wsX10_init) := ggX5_init_X10_init
set_option maxRecDepth 20000 in
theorem ggX5_init_X2_init : GoodIn wsX5_init wsX2_init := goodIn_s _ [(38, 2), (2, 2), (23, 1), (40, 5), (20, 1), (45, 14), (78, 12)] rfl (by decide +kernel)
set_option maxRecDepth 20000 in
theorem gX5_init_X2_init : GoodIn wsX5_init (wsX2_init) := ggX5_init_X2_init
theorem dX5_init_0 : decode cX5_init 0 = .ok (.aload_n 0, 1) := by decide +kernel
theorem dX5_init_1 : decode cX5_init 1 = .ok (.invokespecial 3, 3) := by decide +kernel
theorem dX5_init_4 : decode cX5_init 4 = .ok (.aload_n 0, 1) := by decide +kernel
theorem dX5_init_5 : decode cX5_init 5 = .ok (.iconst (-1), 1) := by decide +kernel
theorem dX5_init_6 : decode cX5_init 6 = .ok (.putfield 9, 3) := by decide +kernel
theorem dX5_init_9 : decode cX5_init 9 = .ok (.aload_n 0, 1) := by decide +kernel
theorem dX5_init_10 : decode cX5_init 10 = .ok (.iconst 0, 1) := by decide +kernel
theorem dX5_init_11 : decode cX5_init 11 = .ok (.putfield 15, 3) := by decide +kernel
theorem dX5_init_14 : decode cX5_init 14 = .ok (.aload_n 0, 1) := by decide +kernel
theorem dX5_init_15 : decode cX5_init 15 = .ok (.new 18, 3) := by decide +kernel
theorem dX5_init_18 : decode cX5_init 18 = .ok (.dup, 1) := by decide +kernel
theorem dX5_init_19 : decode cX5_init 19 = .ok (.invokespecial 20, 3) := by decide +kernel
theorem dX5_init_22 : decode cX5_init 22 = .ok (.putfield 21, 3) := by decide +kernel
theorem dX5_init_25 : decode cX5_init 25 = .ok (.aload_n 0, 1) := by decide +kernel
theorem dX5_init_26 : decode cX5_init 26 = .ok (.new 25, 3) := by decide +kernel
theorem dX5_init_29 : decode cX5_init 29 = .ok (.dup, 1) := by decide +kernel
theorem dX5_init_30 : decode cX5_init 30 = .ok (.invokespecial 27, 3) := by decide +kernel
theorem dX5_init_33 : decode cX5_init 33 = .ok (.putfield 28, 3) := by decide +kernel
theorem dX5_init_36 : decode cX5_init 36 = .ok (.aload_n 0, 1) := by decide +kernel
theorem dX5_init_37 : decode cX5_init 37 = .ok (.sipush 2000, 3) := by decide +kernel
theorem dX5_init_40 : decode cX5_init 40 = .ok (.newarray .boolean, 2) := by decide +kernel
theorem dX5_init_42 : decode cX5_init 42 = .ok (.putfield 32, 3) := by decide +kernel
theorem dX5_init_45 : decode cX5_init 45 = .ok (.aload_n 0, 1) := by decide +kernel
theorem dX5_init_46 : decode cX5_init 46 = .ok (.iconst 0, 1) := by decide +kernel
theorem dX5_init_47 : decode cX5_init 47 = .ok (.putfield 36, 3) := by decide +kernel
theorem dX5_init_50 : decode cX5_init 50 = .ok (.aload_n 0, 1) := by decide +kernel
theorem dX5_init_51 : decode cX5_init 51 = .ok (.iconst 0, 1) := by decide +kernel
theorem dX5_init_52 : decode cX5_init 52 = .ok (.putfield 39, 3) := by decide +kernel
theorem dX5_init_55 : decode cX5_init 55 = .ok (.aload_n 0, 1) := by decide +kernel
theorem dX5_init_56 : decode cX5_init 56 = .ok (.lconst 0, 1) := by decide +kernel
theorem dX5_init_57 : decode cX5_init 57 = .ok (.putfield 43, 3) := by decide +kernel
theorem dX5_init_60 : decode cX5_init 60 = .ok (.aload_n 0, 1) := by decide +kernel
theorem dX5_init_61 : decode cX5_init 61 = .ok (.lconst 1, 1) := by decide +kernel
theorem dX5_init_62 : decode cX5_init 62 = .ok (.putfield 47, 3) := by decide +kernel
theorem dX5_init_65 : decode cX5_init 65 = .ok (.aload_n 0, 1) := by decide +kernel
theorem dX5_init_66 : decode cX5_init 66 = .ok (.sipush 400, 3) := by decide +kernel
theorem dX5_init_69 : decode cX5_init 69 = .ok (.newarray .long, 2) := by decide +kernel
theorem dX5_init_71 : decode cX5_init 71 = .ok (.putfield 50, 3) := by decide +kernel
theorem dX5_init_74 : decode cX5_init 74 = .ok (.aload_n 0, 1) := by decide +kernel
theorem dX5_init_75 : decode cX5_init 75 = .ok (.sipush 400, 3) := by decide +kernel
theorem dX5_init_78 : decode cX5_init 78 = .ok (.newarray .long, 2) := by decide +kernel
theorem dX5_init_80 : decode cX5_init 80 = .ok (.putfield 54, 3) := by decide +kernel
theorem dX5_init_83 : decode cX5_init 83 = .ok (.aload_n 0, 1) := by decide +kernel
theorem dX5_init_84 : decode cX5_init 84 = .ok (.sipush 400, 3) := by decide +kernel
theorem dX5_init_87 : decode cX5_init 87 = .ok (.newarray .int, 2) := by decide +kernel
theorem dX5_init_89 : decode cX5_init 89 = .ok (.putfield 57, 3) := by decide +kernel
theorem dX5_init_92 : decode cX5_init 92 = .ok (.aload_n 0, 1) := by decide +kernel
theorem dX5_init_93 : decode cX5_init 93 = .ok (.sipush 400, 3) := by decide +kernel
theorem dX5_init_96 : decode cX5_init 96 = .ok (.newarray .int, 2) := by decide +kernel
theorem dX5_init_98 : decode cX5_init 98 = .ok (.putfield 61, 3) := by decide +kernel
theorem dX5_init_101 : decode cX5_init 101 = .ok (.return_, 1) := by decide +kernel
theorem dX5_exchange_0 : decode cX5_exchange 0 = .ok (.aload_n 0, 1) := by decide +kernel
theorem dX5_exchange_1 : decode cX5_exchange 1 = .ok (.getfield 28, 3) := by decide +kernel
theorem dX5_exchange_4 : decode cX5_exchange 4 = .ok (.astore_n 2, 1) := by decide +kernel
theorem dX5_exchange_5 : decode cX5_exchange 5 = .ok (.aload_n 0, 1) := by decide +kernel
theorem dX5_exchange_6 : decode cX5_exchange 6 = .ok (.aload_n 1, 1) := by decide +kernel
theorem dX5_exchange_7 : decode cX5_exchange 7 = .ok (.putfield 28, 3) := by decide +kernel
theorem dX5_exchange_10 : decode cX5_exchange 10 = .ok (.aload_n 2, 1) := by decide +kernel
theorem dX5_exchange_11 : decode cX5_exchange 11 = .ok (.areturn, 1) := by decide +kernel
set_option maxRecDepth 20000 in
theorem ggX5_understand_X2_clear : GoodIn wsX5_understand wsX2_clear := goodIn_s _ [(10, 5), (207, 12)] rfl (by decide +kernel)
set_option maxRecDepth 20000 in
theorem gX5_understand_X2_clear : GoodIn wsX5_understand (wsV RX5 64 RX2 yX2_clear wsX2_clear) := goodIn_app (goodIn_r _ [6, 7, 8, 9] rfl (by decide +kernel)) ggX5_understand_X2_clear
set_option maxRecDepth 20000 in
theorem ggX5_understand_X10_goToStart : GoodIn wsX5_understand wsX10_goToStart := goodIn_s _ [(19, 5), (18, 1), (24, 13), (201, 6)] rfl (by decide +kernel)
set_option maxRecDepth 20000 in
theorem gX5_understand_X10_goToStart : GoodIn wsX5_understand (wsV RX5 67 RX10 yX10_goToStart wsX10_goToStart) := goodIn_app (goodIn_r _ [15, 16, 17, 18] rfl (by decide +kernel)) ggX5_understand_X10_goToStart
set_option maxRecDepth 20000 in
theorem ggX5_understand_X5_isOne : GoodIn wsX5_understand wsX5_isOne := goodIn_s _ [(41, 3), (4, 1), (44, 4), (40, 1), (48, 19), (22, 2), (18, 1), (24, 1), (20, 1), (25, 12), (188, 19)] rfl (by decide +kernel)
set_option maxRecDepth 20000 in
theorem gX5_understand_X5_isOne : GoodIn wsX5_understand (wsV RX5 70 RX5 yX5_isOne wsX5_isOne) := goodIn_app (goodIn_r _ [37, 38, 39, 40] rfl (by decide +kernel)) ggX5_understand_X5_isOne
set_option maxRecDepth 20000 in
theorem ggX5_understand_X5_refuse : GoodIn wsX5_understand wsX5_refuse := goodIn_s _ [(70, 1), (2, 2), (188, 13)] rfl (by decide +kernel)
set_option maxRecDepth 20000 in
theorem gX5_understand_X5_refuse : GoodIn wsX5_understand (wsV RX5 77 RX5 yX5_refuse wsX5_refuse) := goodIn_app (goodIn_r _ [67, 68, 69, 40] rfl (by decide +kernel)) ggX5_understand_X5_refuse
set_option maxRecDepth 20000 in
theorem ggX5_understand_X5_goThroughNode : GoodIn wsX5_understand wsX5_goThroughNode := goodIn_s _ [(74, 1), (1, 1), (75, 1), (4, 2), (44, 1), (67, 3), (40, 1), (70, 1), (2, 2), (76, 15), (66, 1), (22, 2), (18, 1), (24, 1), (20, 1), (25, 12), (91, 48), (71, 3), (139, 14), (188, 31)] rfl (by decide +kernel)
set_option maxRecDepth 20000 in
theorem gX5_understand_X5_goThroughNode : GoodIn wsX5_understand (wsV RX5 81 RX5 yX5_goThroughNode wsX5_goThroughNode) := goodIn_app (goodIn_r _ [71, 72, 73, 40] rfl (by decide +kernel)) ggX5_understand_X5_goThroughNode
set_option maxRecDepth 20000 in
theorem ggX5_understand_X5_finish : GoodIn wsX5_understand wsX5_finish := goodIn_s _ [(156, 1), (1, 1), (111, 1), (4, 1), (157, 4), (121, 1), (161, 1), (123, 1), (130, 1), (67, 3), (40, 1), (70, 1), (2, 2), (162, 5), (75, 1), (88, 1), (80, 1), (145, 1), (97, 1), (146, 2), (96, 1), (98, 3), (83, 1), (101, 1), (148, 1), (102, 2), (167, 7), (131, 1), (174, 4), (133, 3), (178, 7), (87, 1), (185, 1), (89, 2), (186, 15), (207, 4), (201, 6), (211, 8)] rfl (by decide +kernel)
set_option maxRecDepth 20000 in
theorem gX5_understand_X5_finish : GoodIn wsX5_understand (wsV RX5 85 RX5 yX5_finish wsX5_finish) := goodIn_app (goodIn_r _ [153, 154, 155, 40] rfl (by decide +kernel)) ggX5_understand_X5_finish
theorem dX5_understand_0 : decode cX5_understand 0 = .ok (.aload_n 0, 1) := by decide +kernel
theorem dX5_understand_1 : decode cX5_understand 1 = .ok (.getfield 28, 3) := by decide +kernel
theorem dX5_understand_4 : decode cX5_understand 4 = .ok (.invokevirtual 64, 3) := by decide +kernel
theorem dX5_understand_7 : decode cX5_understand 7 = .ok (.aload_n 0, 1) := by decide +kernel
theorem dX5_understand_8 : decode cX5_understand 8 = .ok (.iconst 0, 1) := by decide +kernel
theorem dX5_understand_9 : decode cX5_understand 9 = .ok (.putfield 15, 3) := by decide +kernel
theorem dX5_understand_12 : decode cX5_understand 12 = .ok (.aload_n 0, 1) := by decide +kernel
theorem dX5_understand_13 : decode cX5_understand 13 = .ok (.iconst (-1), 1) := by decide +kernel
theorem dX5_understand_14 : decode cX5_understand 14 = .ok (.putfield 9, 3) := by decide +kernel
theorem dX5_understand_17 : decode cX5_understand 17 = .ok (.aload_n 0, 1) := by decide +kernel
theorem dX5_understand_18 : decode cX5_understand 18 = .ok (.getfield 21, 3) := by decide +kernel
theorem dX5_understand_21 : decode cX5_understand 21 = .ok (.invokevirtual 67, 3) := by decide +kernel
theorem dX5_understand_24 : decode cX5_understand 24 = .ok (.aload_n 0, 1) := by decide +kernel
theorem dX5_understand_25 : decode cX5_understand 25 = .ok (.invokevirtual 70, 3) := by decide +kernel
theorem dX5_understand_28 : decode cX5_understand 28 = .ok (.ifCond .ne 21, 3) := by decide +kernel
theorem dX5_understand_31 : decode cX5_understand 31 = .ok (.aload_n 0, 1) := by decide +kernel
theorem dX5_understand_32 : decode cX5_understand 32 = .ok (.iconst 1, 1) := by decide +kernel
theorem dX5_understand_33 : decode cX5_understand 33 = .ok (.aload_n 0, 1) := by decide +kernel
theorem dX5_understand_34 : decode cX5_understand 34 = .ok (.getfield 21, 3) := by decide +kernel
theorem dX5_understand_37 : decode cX5_understand 37 = .ok (.getfield 74, 3) := by decide +kernel
theorem dX5_understand_40 : decode cX5_understand 40 = .ok (.invokevirtual 77, 3) := by decide +kernel
theorem dX5_understand_43 : decode cX5_understand 43 = .ok (.pop, 1) := by decide +kernel
theorem dX5_understand_44 : decode cX5_understand 44 = .ok (.aload_n 0, 1) := by decide +kernel
theorem dX5_understand_45 : decode cX5_understand 45 = .ok (.getfield 15, 3) := by decide +kernel
theorem dX5_understand_48 : decode cX5_understand 48 = .ok (.ireturn, 1) := by decide +kernel
theorem dX5_understand_49 : decode cX5_understand 49 = .ok (.aload_n 0, 1) := by decide +kernel
theorem dX5_understand_50 : decode cX5_understand 50 = .ok (.getfield 21, 3) := by decide +kernel
theorem dX5_understand_53 : decode cX5_understand 53 = .ok (.invokevirtual 67, 3) := by decide +kernel
theorem dX5_understand_56 : decode cX5_understand 56 = .ok (.aload_n 0, 1) := by decide +kernel
theorem dX5_understand_57 : decode cX5_understand 57 = .ok (.iconst 0, 1) := by decide +kernel
theorem dX5_understand_58 : decode cX5_understand 58 = .ok (.lconst 1, 1) := by decide +kernel
theorem dX5_understand_59 : decode cX5_understand 59 = .ok (.lconst 1, 1) := by decide +kernel
theorem dX5_understand_60 : decode cX5_understand 60 = .ok (.iconst (-1), 1) := by decide +kernel
theorem dX5_understand_61 : decode cX5_understand 61 = .ok (.iconst (-1), 1) := by decide +kernel
theorem dX5_understand_62 : decode cX5_understand 62 = .ok (.invokevirtual 81, 3) := by decide +kernel
theorem dX5_understand_65 : decode cX5_understand 65 = .ok (.ifCond .eq 7, 3) := by decide +kernel
theorem dX5_understand_68 : decode cX5_understand 68 = .ok (.aload_n 0, 1) := by decide +kernel
theorem dX5_understand_69 : decode cX5_understand 69 = .ok (.invokevirtual 85, 3) := by decide +kernel
theorem dX5_understand_72 : decode cX5_understand 72 = .ok (.aload_n 0, 1) := by decide +kernel
theorem dX5_understand_73 : decode cX5_understand 73 = .ok (.getfield 15, 3) := by decide +kernel
theorem dX5_understand_76 : decode cX5_understand 76 = .ok (.ireturn, 1) := by decide +kernel
theorem dX5_refuse_0 : decode cX5_refuse 0 = .ok (.aload_n 0, 1) := by decide +kernel
theorem dX5_refuse_1 : decode cX5_refuse 1 = .ok (.iload_n 1, 1) := by decide +kernel
theorem dX5_refuse_2 : decode cX5_refuse 2 = .ok (.putfield 15, 3) := by decide +kernel
theorem dX5_refuse_5 : decode cX5_refuse 5 = .ok (.aload_n 0, 1) := by decide +kernel
theorem dX5_refuse_6 : decode cX5_refuse 6 = .ok (.iload_n 2, 1) := by decide +kernel
theorem dX5_refuse_7 : decode cX5_refuse 7 = .ok (.putfield 9, 3) := by decide +kernel
theorem dX5_refuse_10 : decode cX5_refuse 10 = .ok (.iconst 0, 1) := by decide +kernel
theorem dX5_refuse_11 : decode cX5_refuse 11 = .ok (.ireturn, 1) := by decide +kernel
set_option maxRecDepth 20000 in
theorem ggX5_isOne_X5_dueBehind : GoodIn wsX5_isOne wsX5_dueBehind := goodIn_s _ [(9, 1), (3, 2), (10, 3), (8, 1), (13, 1), (2, 1), (14, 4), (1, 1), (18, 9), (45, 19)] rfl (by decide +kernel)
set_option maxRecDepth 20000 in
theorem gX5_isOne_X5_dueBehind : GoodIn wsX5_isOne (wsV RX5 91 RX5 yX5_dueBehind wsX5_dueBehind) := goodIn_app (goodIn_r _ [5, 6, 7, 8] rfl (by decide +kernel)) ggX5_isOne_X5_dueBehind
set_option maxRecDepth 20000 in
theorem ggX5_isOne_X10_advance : GoodIn wsX5_isOne wsX10_advance := goodIn_s _ [(31, 9), (30, 1), (40, 5), (58, 6)] rfl (by decide +kernel)
set_option maxRecDepth 20000 in
theorem gX5_isOne_X10_advance : GoodIn wsX5_isOne (wsV RX5 95 RX10 yX10_advance wsX10_advance) := goodIn_app (goodIn_r _ [27, 28, 29, 30] rfl (by decide +kernel)) ggX5_isOne_X10_advance
theorem dX5_isOne_0 : decode cX5_isOne 0 = .ok (.aload_n 0, 1) := by decide +kernel
theorem dX5_isOne_1 : decode cX5_isOne 1 = .ok (.iconst 0, 1) := by decide +kernel
theorem dX5_isOne_2 : decode cX5_isOne 2 = .ok (.putfield 36, 3) := by decide +kernel
theorem dX5_isOne_5 : decode cX5_isOne 5 = .ok (.aload_n 0, 1) := by decide +kernel
theorem dX5_isOne_6 : decode cX5_isOne 6 = .ok (.iconst 0, 1) := by decide +kernel
theorem dX5_isOne_7 : decode cX5_isOne 7 = .ok (.putfield 39, 3) := by decide +kernel
theorem dX5_isOne_10 : decode cX5_isOne 10 = .ok (.iconst 1, 1) := by decide +kernel
theorem dX5_isOne_11 : decode cX5_isOne 11 = .ok (.istore_n 1, 1) := by decide +kernel
theorem dX5_isOne_12 : decode cX5_isOne 12 = .ok (.iconst 0, 1) := by decide +kernel
theorem dX5_isOne_13 : decode cX5_isOne 13 = .ok (.istore_n 2, 1) := by decide +kernel
theorem dX5_isOne_14 : decode cX5_isOne 14 = .ok (.iload_n 2, 1) := by decide +kernel
theorem dX5_isOne_15 : decode cX5_isOne 15 = .ok (.sipush 4000, 3) := by decide +kernel
theorem dX5_isOne_18 : decode cX5_isOne 18 = .ok (.if_icmp .gt 38, 3) := by decide +kernel
theorem dX5_isOne_21 : decode cX5_isOne 21 = .ok (.aload_n 0, 1) := by decide +kernel
theorem dX5_isOne_22 : decode cX5_isOne 22 = .ok (.getfield 21, 3) := by decide +kernel
theorem dX5_isOne_25 : decode cX5_isOne 25 = .ok (.getfield 88, 3) := by decide +kernel
theorem dX5_isOne_28 : decode cX5_isOne 28 = .ok (.ifCond .eq 28, 3) := by decide +kernel
theorem dX5_isOne_31 : decode cX5_isOne 31 = .ok (.aload_n 0, 1) := by decide +kernel
theorem dX5_isOne_32 : decode cX5_isOne 32 = .ok (.iload_n 1, 1) := by decide +kernel
theorem dX5_isOne_33 : decode cX5_isOne 33 = .ok (.invokevirtual 91, 3) := by decide +kernel
theorem dX5_isOne_36 : decode cX5_isOne 36 = .ok (.istore_n 1, 1) := by decide +kernel
theorem dX5_isOne_37 : decode cX5_isOne 37 = .ok (.iload_n 1, 1) := by decide +kernel
theorem dX5_isOne_38 : decode cX5_isOne 38 = .ok (.ifCond .ne 5, 3) := by decide +kernel
theorem dX5_isOne_41 : decode cX5_isOne 41 = .ok (.iconst 0, 1) := by decide +kernel
theorem dX5_isOne_42 : decode cX5_isOne 42 = .ok (.ireturn, 1) := by decide +kernel
theorem dX5_isOne_43 : decode cX5_isOne 43 = .ok (.aload_n 0, 1) := by decide +kernel
theorem dX5_isOne_44 : decode cX5_isOne 44 = .ok (.getfield 21, 3) := by decide +kernel
theorem dX5_isOne_47 : decode cX5_isOne 47 = .ok (.invokevirtual 95, 3) := by decide +kernel
theorem dX5_isOne_50 : decode cX5_isOne 50 = .ok (.iinc 2 1, 3) := by decide +kernel
theorem dX5_isOne_53 : decode cX5_isOne 53 = .ok (.goto (-39), 3) := by decide +kernel
theorem dX5_isOne_56 : decode cX5_isOne 56 = .ok (.iload_n 1, 1) := by decide +kernel
theorem dX5_isOne_57 : decode cX5_isOne 57 = .ok (.bipush 10, 2) := by decide +kernel
theorem dX5_isOne_59 : decode cX5_isOne 59 = .ok (.if_icmp .ne 14, 3) := by decide +kernel
theorem dX5_isOne_62 : decode cX5_isOne 62 = .ok (.aload_n 0, 1) := by decide +kernel
theorem dX5_isOne_63 : decode cX5_isOne 63 = .ok (.getfield 36, 3) := by decide +kernel
theorem dX5_isOne_66 : decode cX5_isOne 66 = .ok (.ifCond .ne 7, 3) := by decide +kernel
theorem dX5_isOne_69 : decode cX5_isOne 69 = .ok (.iconst 1, 1) := by decide +kernel
theorem dX5_isOne_70 : decode cX5_isOne 70 = .ok (.goto 4, 3) := by decide +kernel
theorem dX5_isOne_73 : decode cX5_isOne 73 = .ok (.iconst 0, 1) := by decide +kernel
theorem dX5_isOne_74 : decode cX5_isOne 74 = .ok (.ireturn, 1) := by decide +kernel
set_option maxRecDepth 20000 in
theorem ggX5_dueBehind_X5_dueInNode : GoodIn wsX5_dueBehind wsX5_dueInNode := goodIn_s _ [(7, 2), (23, 13)] rfl (by decide +kernel)
set_option maxRecDepth 20000 in
theorem gX5_dueBehind_X5_dueInNode : GoodIn wsX5_dueBehind (wsV RX5 98 RX5 yX5_dueInNode wsX5_dueInNode) := goodIn_app (goodIn_r _ [3, 4, 5, 6] rfl (by decide +kernel)) ggX5_dueBehind_X5_dueInNode
set_option maxRecDepth 20000 in
theorem ggX5_dueBehind_X5_openBracket : GoodIn wsX5_dueBehind wsX5_openBracket := goodIn_s _ [(12, 3), (23, 13)] rfl (by decide +kernel)
set_option maxRecDepth 20000 in
theorem gX5_dueBehind_X5_openBracket : GoodIn wsX5_dueBehind (wsV RX5 101 RX5 yX5_openBracket wsX5_openBracket) := goodIn_app (goodIn_r _ [9, 10, 11, 6] rfl (by decide +kernel)) ggX5_dueBehind_X5_openBracket
set_option maxRecDepth 20000 in
theorem ggX5_dueBehind_X5_dueBehindFraction : GoodIn wsX5_dueBehind wsX5_dueBehindFraction := goodIn_s _ [(18, 1), (8, 1), (23, 13)] rfl (by decide +kernel)
set_option maxRecDepth 20000 in
theorem gX5_dueBehind_X5_dueBehindFraction : GoodIn wsX5_dueBehind (wsV RX5 105 RX5 yX5_dueBehindFraction wsX5_dueBehindFraction) := goodIn_app (goodIn_r _ [15, 16, 17, 6] rfl (by decide +kernel)) ggX5_dueBehind_X5_dueBehindFraction
set_option maxRecDepth 20000 in
theorem ggX5_dueBehind_X5_dueBehindNode : GoodIn wsX5_dueBehind wsX5_dueBehindNode := goodIn_s _ [(22, 1), (13, 2), (23, 13)] rfl (by decide +kernel)
set_option maxRecDepth 20000 in
theorem gX5_dueBehind_X5_dueBehindNode : GoodIn wsX5_dueBehind (wsV RX5 108 RX5 yX5_dueBehindNode wsX5_dueBehindNode) := goodIn_app (goodIn_r _ [19, 20, 21, 6] rfl (by decide +kernel)) ggX5_dueBehind_X5_dueBehindNode
theorem dX5_dueBehind_0 : decode cX5_dueBehind 0 = .ok (.aload_n 0, 1) := by decide +kernel
theorem dX5_dueBehind_1 : decode cX5_dueBehind 1 = .ok (.getfield 21, 3) := by decide +kernel
theorem dX5_dueBehind_4 : decode cX5_dueBehind 4 = .ok (.getfield 88, 3) := by decide +kernel
theorem dX5_dueBehind_7 : decode cX5_dueBehind 7 = .ok (.istore_n 2, 1) := by decide +kernel
theorem dX5_dueBehind_8 : decode cX5_dueBehind 8 = .ok (.iload_n 1, 1) := by decide +kernel
theorem dX5_dueBehind_9 : decode cX5_dueBehind 9 = .ok (.tableswitch 172 1 9 #[51, 57, 69, 85, 101, 123, 136, 153, 166], 51) := by decide +kernel
theorem dX5_dueBehind_60 : decode cX5_dueBehind 60 = .ok (.aload_n 0, 1) := by decide +kernel
theorem dX5_dueBehind_61 : decode cX5_dueBehind 61 = .ok (.iload_n 2, 1) := by decide +kernel
theorem dX5_dueBehind_62 : decode cX5_dueBehind 62 = .ok (.invokevirtual 98, 3) := by decide +kernel
theorem dX5_dueBehind_65 : decode cX5_dueBehind 65 = .ok (.ireturn, 1) := by decide +kernel
theorem dX5_dueBehind_66 : decode cX5_dueBehind 66 = .ok (.iload_n 2, 1) := by decide +kernel
theorem dX5_dueBehind_67 : decode cX5_dueBehind 67 = .ok (.bipush 48, 2) := by decide +kernel
theorem dX5_dueBehind_69 : decode cX5_dueBehind 69 = .ok (.if_icmp .ne 7, 3) := by decide +kernel
theorem dX5_dueBehind_72 : decode cX5_dueBehind 72 = .ok (.iconst 3, 1) := by decide +kernel
theorem dX5_dueBehind_73 : decode cX5_dueBehind 73 = .ok (.goto 4, 3) := by decide +kernel
theorem dX5_dueBehind_76 : decode cX5_dueBehind 76 = .ok (.iconst 0, 1) := by decide +kernel
theorem dX5_dueBehind_77 : decode cX5_dueBehind 77 = .ok (.ireturn, 1) := by decide +kernel
theorem dX5_dueBehind_78 : decode cX5_dueBehind 78 = .ok (.iload_n 2, 1) := by decide +kernel
theorem dX5_dueBehind_79 : decode cX5_dueBehind 79 = .ok (.bipush 40, 2) := by decide +kernel
theorem dX5_dueBehind_81 : decode cX5_dueBehind 81 = .ok (.if_icmp .ne 11, 3) := by decide +kernel
theorem dX5_dueBehind_84 : decode cX5_dueBehind 84 = .ok (.aload_n 0, 1) := by decide +kernel
theorem dX5_dueBehind_85 : decode cX5_dueBehind 85 = .ok (.iconst 0, 1) := by decide +kernel
theorem dX5_dueBehind_86 : decode cX5_dueBehind 86 = .ok (.invokevirtual 101, 3) := by decide +kernel
theorem dX5_dueBehind_89 : decode cX5_dueBehind 89 = .ok (.goto 4, 3) := by decide +kernel
theorem dX5_dueBehind_92 : decode cX5_dueBehind 92 = .ok (.iconst 0, 1) := by decide +kernel
theorem dX5_dueBehind_93 : decode cX5_dueBehind 93 = .ok (.ireturn, 1) := by decide +kernel
theorem dX5_dueBehind_94 : decode cX5_dueBehind 94 = .ok (.iload_n 2, 1) := by decide +kernel
theorem dX5_dueBehind_95 : decode cX5_dueBehind 95 = .ok (.bipush 40, 2) := by decide +kernel
theorem dX5_dueBehind_97 : decode cX5_dueBehind 97 = .ok (.if_icmp .ne 11, 3) := by decide +kernel
theorem dX5_dueBehind_100 : decode cX5_dueBehind 100 = .ok (.aload_n 0, 1) := by decide +kernel
theorem dX5_dueBehind_101 : decode cX5_dueBehind 101 = .ok (.iconst 1, 1) := by decide +kernel
theorem dX5_dueBehind_102 : decode cX5_dueBehind 102 = .ok (.invokevirtual 101, 3) := by decide +kernel
theorem dX5_dueBehind_105 : decode cX5_dueBehind 105 = .ok (.goto 4, 3) := by decide +kernel
theorem dX5_dueBehind_108 : decode cX5_dueBehind 108 = .ok (.iconst 0, 1) := by decide +kernel
theorem dX5_dueBehind_109 : decode cX5_dueBehind 109 = .ok (.ireturn, 1) := by decide +kernel
theorem dX5_dueBehind_110 : decode cX5_dueBehind 110 = .ok (.iload_n 2, 1) := by decide +kernel
theorem dX5_dueBehind_111 : decode cX5_dueBehind 111 = .ok (.bipush 45, 2) := by decide +kernel
theorem dX5_dueBehind_113 : decode cX5_dueBehind 113 = .ok (.if_icmp .ne 6, 3) := by decide +kernel
theorem dX5_dueBehind_116 : decode cX5_dueBehind 116 = .ok (.bipush 6, 2) := by decide +kernel
theorem dX5_dueBehind_118 : decode cX5_dueBehind 118 = .ok (.ireturn, 1) := by decide +kernel
theorem dX5_dueBehind_119 : decode cX5_dueBehind 119 = .ok (.iload_n 2, 1) := by decide +kernel
theorem dX5_dueBehind_120 : decode cX5_dueBehind 120 = .ok (.bipush 48, 2) := by decide +kernel
theorem dX5_dueBehind_122 : decode cX5_dueBehind 122 = .ok (.if_icmp .ne 8, 3) := by decide +kernel
theorem dX5_dueBehind_125 : decode cX5_dueBehind 125 = .ok (.bipush 7, 2) := by decide +kernel
theorem dX5_dueBehind_127 : decode cX5_dueBehind 127 = .ok (.goto 4, 3) := by decide +kernel
theorem dX5_dueBehind_130 : decode cX5_dueBehind 130 = .ok (.iconst 0, 1) := by decide +kernel
theorem dX5_dueBehind_131 : decode cX5_dueBehind 131 = .ok (.ireturn, 1) := by decide +kernel
theorem dX5_dueBehind_132 : decode cX5_dueBehind 132 = .ok (.iload_n 2, 1) := by decide +kernel
theorem dX5_dueBehind_133 : decode cX5_dueBehind 133 = .ok (.bipush 48, 2) := by decide +kernel
theorem dX5_dueBehind_135 : decode cX5_dueBehind 135 = .ok (.if_icmp .ne 8, 3) := by decide +kernel
theorem dX5_dueBehind_138 : decode cX5_dueBehind 138 = .ok (.bipush 7, 2) := by decide +kernel
theorem dX5_dueBehind_140 : decode cX5_dueBehind 140 = .ok (.goto 4, 3) := by decide +kernel
theorem dX5_dueBehind_143 : decode cX5_dueBehind 143 = .ok (.iconst 0, 1) := by decide +kernel
theorem dX5_dueBehind_144 : decode cX5_dueBehind 144 = .ok (.ireturn, 1) := by decide +kernel
theorem dX5_dueBehind_145 : decode cX5_dueBehind 145 = .ok (.iload_n 2, 1) := by decide +kernel
theorem dX5_dueBehind_146 : decode cX5_dueBehind 146 = .ok (.bipush 47, 2) := by decide +kernel
theorem dX5_dueBehind_148 : decode cX5_dueBehind 148 = .ok (.if_icmp .ne 8, 3) := by decide +kernel
theorem dX5_dueBehind_151 : decode cX5_dueBehind 151 = .ok (.bipush 8, 2) := by decide +kernel
theorem dX5_dueBehind_153 : decode cX5_dueBehind 153 = .ok (.goto 8, 3) := by decide +kernel
theorem dX5_dueBehind_156 : decode cX5_dueBehind 156 = .ok (.aload_n 0, 1) := by decide +kernel
theorem dX5_dueBehind_157 : decode cX5_dueBehind 157 = .ok (.iload_n 2, 1) := by decide +kernel
theorem dX5_dueBehind_158 : decode cX5_dueBehind 158 = .ok (.invokevirtual 105, 3) := by decide +kernel
theorem dX5_dueBehind_161 : decode cX5_dueBehind 161 = .ok (.ireturn, 1) := by decide +kernel
theorem dX5_dueBehind_162 : decode cX5_dueBehind 162 = .ok (.iload_n 2, 1) := by decide +kernel
theorem dX5_dueBehind_163 : decode cX5_dueBehind 163 = .ok (.bipush 48, 2) := by decide +kernel
theorem dX5_dueBehind_165 : decode cX5_dueBehind 165 = .ok (.if_icmp .ne 8, 3) := by decide +kernel
theorem dX5_dueBehind_168 : decode cX5_dueBehind 168 = .ok (.bipush 9, 2) := by decide +kernel
theorem dX5_dueBehind_170 : decode cX5_dueBehind 170 = .ok (.goto 4, 3) := by decide +kernel
theorem dX5_dueBehind_173 : decode cX5_dueBehind 173 = .ok (.iconst 0, 1) := by decide +kernel
theorem dX5_dueBehind_174 : decode cX5_dueBehind 174 = .ok (.ireturn, 1) := by decide +kernel
theorem dX5_dueBehind_175 : decode cX5_dueBehind 175 = .ok (.aload_n 0, 1) := by decide +kernel
theorem dX5_dueBehind_176 : decode cX5_dueBehind 176 = .ok (.iload_n 2, 1) := by decide +kernel
theorem dX5_dueBehind_177 : decode cX5_dueBehind 177 = .ok (.invokevirtual 105, 3) := by decide +kernel
theorem dX5_dueBehind_180 : decode cX5_dueBehind 180 = .ok (.ireturn, 1) := by decide +kernel
theorem dX5_dueBehind_181 : decode cX5_dueBehind 181 = .ok (.aload_n 0, 1) := by decide +kernel
theorem dX5_dueBehind_182 : decode cX5_dueBehind 182 = .ok (.iload_n 2, 1) := by decide +kernel
theorem dX5_dueBehind_183 : decode cX5_dueBehind 183 = .ok (.invokevirtual 108, 3) := by decide +kernel
theorem dX5_dueBehind_186 : decode cX5_dueBehind 186 = .ok (.ireturn, 1) := by decide +kernel
theorem dX5_dueInNode_0 : decode cX5_dueInNode 0 = .ok (.aload_n 0, 1) := by decide +kernel
theorem dX5_dueInNode_1 : decode cX5_dueInNode 1 = .ok (.iload_n 1, 1) := by decide +kernel
theorem dX5_dueInNode_2 : decode cX5_dueInNode 2 = .ok (.bipush 91, 2) := by decide +kernel
theorem dX5_dueInNode_4 : decode cX5_dueInNode 4 = .ok (.if_icmp .ne 7, 3) := by decide +kernel
theorem dX5_dueInNode_7 : decode cX5_dueInNode 7 = .ok (.iconst 1, 1) := by decide +kernel
theorem dX5_dueInNode_8 : decode cX5_dueInNode 8 = .ok (.goto 4, 3) := by decide +kernel
theorem dX5_dueInNode_11 : decode cX5_dueInNode 11 = .ok (.iconst 0, 1) := by decide +kernel
theorem dX5_dueInNode_12 : decode cX5_dueInNode 12 = .ok (.putfield 39, 3) := by decide +kernel
theorem dX5_dueInNode_15 : decode cX5_dueInNode 15 = .ok (.iload_n 1, 1) := by decide +kernel
theorem dX5_dueInNode_16 : decode cX5_dueInNode 16 = .ok (.lookupswitch 50 #[(63, 46), (65, 48), (66, 48), (91, 44)], 44) := by decide +kernel
theorem dX5_dueInNode_60 : decode cX5_dueInNode 60 = .ok (.iconst 5, 1) := by decide +kernel
theorem dX5_dueInNode_61 : decode cX5_dueInNode 61 = .ok (.ireturn, 1) := by decide +kernel
theorem dX5_dueInNode_62 : decode cX5_dueInNode 62 = .ok (.iconst 4, 1) := by decide +kernel
theorem dX5_dueInNode_63 : decode cX5_dueInNode 63 = .ok (.ireturn, 1) := by decide +kernel
theorem dX5_dueInNode_64 : decode cX5_dueInNode 64 = .ok (.iconst 2, 1) := by decide +kernel
theorem dX5_dueInNode_65 : decode cX5_dueInNode 65 = .ok (.ireturn, 1) := by decide +kernel
theorem dX5_dueInNode_66 : decode cX5_dueInNode 66 = .ok (.iconst 0, 1) := by decide +kernel
theorem dX5_dueInNode_67 : decode cX5_dueInNode 67 = .ok (.ireturn, 1) := by decide +kernel
theorem dX5_openBracket_0 : decode cX5_openBracket 0 = .ok (.aload_n 0, 1) := by decide +kernel
theorem dX5_openBracket_1 : decode cX5_openBracket 1 = .ok (.getfield 36, 3) := by decide +kernel
theorem dX5_openBracket_4 : decode cX5_openBracket 4 = .ok (.aload_n 0, 1) := by decide +kernel
theorem dX5_openBracket_5 : decode cX5_openBracket 5 = .ok (.getfield 32, 3) := by decide +kernel
theorem dX5_openBracket_8 : decode cX5_openBracket 8 = .ok (.arraylength, 1) := by decide +kernel
theorem dX5_openBracket_9 : decode cX5_openBracket 9 = .ok (.if_icmp .lt 5, 3) := by decide +kernel
theorem dX5_openBracket_12 : decode cX5_openBracket 12 = .ok (.iconst 0, 1) := by decide +kernel
theorem dX5_openBracket_13 : decode cX5_openBracket 13 = .ok (.ireturn, 1) := by decide +kernel
theorem dX5_openBracket_14 : decode cX5_openBracket 14 = .ok (.aload_n 0, 1) := by decide +kernel
theorem dX5_openBracket_15 : decode cX5_openBracket 15 = .ok (.getfield 32, 3) := by decide +kernel
theorem dX5_openBracket_18 : decode cX5_openBracket 18 = .ok (.aload_n 0, 1) := by decide +kernel
theorem dX5_openBracket_19 : decode cX5_openBracket 19 = .ok (.getfield 36, 3) := by decide +kernel
theorem dX5_openBracket_22 : decode cX5_openBracket 22 = .ok (.iload_n 1, 1) := by decide +kernel
theorem dX5_openBracket_23 : decode cX5_openBracket 23 = .ok (.bastore, 1) := by decide +kernel
theorem dX5_openBracket_24 : decode cX5_openBracket 24 = .ok (.aload_n 0, 1) := by decide +kernel
theorem dX5_openBracket_25 : decode cX5_openBracket 25 = .ok (.dup, 1) := by decide +kernel
theorem dX5_openBracket_26 : decode cX5_openBracket 26 = .ok (.getfield 36, 3) := by decide +kernel
theorem dX5_openBracket_29 : decode cX5_openBracket 29 = .ok (.iconst 1, 1) := by decide +kernel
theorem dX5_openBracket_30 : decode cX5_openBracket 30 = .ok (.iadd, 1) := by decide +kernel
theorem dX5_openBracket_31 : decode cX5_openBracket 31 = .ok (.putfield 36, 3) := by decide +kernel
theorem dX5_openBracket_34 : decode cX5_openBracket 34 = .ok (.iload_n 1, 1) := by decide +kernel
theorem dX5_openBracket_35 : decode cX5_openBracket 35 = .ok (.ifCond .eq 7, 3) := by decide +kernel
theorem dX5_openBracket_38 : decode cX5_openBracket 38 = .ok (.iconst 5, 1) := by decide +kernel
theorem dX5_openBracket_39 : decode cX5_openBracket 39 = .ok (.goto 4, 3) := by decide +kernel
theorem dX5_openBracket_42 : decode cX5_openBracket 42 = .ok (.iconst 1, 1) := by decide +kernel
theorem dX5_openBracket_43 : decode cX5_openBracket 43 = .ok (.ireturn, 1) := by decide +kernel
theorem dX5_dueBehindFraction_0 : decode cX5_dueBehindFraction 0 = .ok (.iload_n 1, 1) := by decide +kernel
theorem dX5_dueBehindFraction_1 : decode cX5_dueBehindFraction 1 = .ok (.aload_n 0, 1) := by decide +kernel
theorem dX5_dueBehindFraction_2 : decode cX5_dueBehindFraction 2 = .ok (.getfield 39, 3) := by decide +kernel
theorem dX5_dueBehindFraction_5 : decode cX5_dueBehindFraction 5 = .ok (.ifCond .eq 8, 3) := by decide +kernel
theorem dX5_dueBehindFraction_8 : decode cX5_dueBehindFraction 8 = .ok (.bipush 93, 2) := by decide +kernel
theorem dX5_dueBehindFraction_10 : decode cX5_dueBehindFraction 10 = .ok (.goto 5, 3) := by decide +kernel
theorem dX5_dueBehindFraction_13 : decode cX5_dueBehindFraction 13 = .ok (.bipush 58, 2) := by decide +kernel
theorem dX5_dueBehindFraction_15 : decode cX5_dueBehindFraction 15 = .ok (.if_icmp .eq 5, 3) := by decide +kernel
theorem dX5_dueBehindFraction_18 : decode cX5_dueBehindFraction 18 = .ok (.iconst 0, 1) := by decide +kernel
theorem dX5_dueBehindFraction_19 : decode cX5_dueBehindFraction 19 = .ok (.ireturn, 1) := by decide +kernel
theorem dX5_dueBehindFraction_20 : decode cX5_dueBehindFraction 20 = .ok (.aload_n 0, 1) := by decide +kernel
theorem dX5_dueBehindFraction_21 : decode cX5_dueBehindFraction 21 = .ok (.getfield 39, 3) := by decide +kernel
theorem dX5_dueBehindFraction_24 : decode cX5_dueBehindFraction 24 = .ok (.ifCond .eq 8, 3) := by decide +kernel
theorem dX5_dueBehindFraction_27 : decode cX5_dueBehindFraction 27 = .ok (.bipush 10, 2) := by decide +kernel
theorem dX5_dueBehindFraction_29 : decode cX5_dueBehindFraction 29 = .ok (.goto 4, 3) := by decide +kernel
theorem dX5_dueBehindFraction_32 : decode cX5_dueBehindFraction 32 = .ok (.iconst 1, 1) := by decide +kernel
theorem dX5_dueBehindFraction_33 : decode cX5_dueBehindFraction 33 = .ok (.istore_n 2, 1) := by decide +kernel
theorem dX5_dueBehindFraction_34 : decode cX5_dueBehindFraction 34 = .ok (.aload_n 0, 1) := by decide +kernel
theorem dX5_dueBehindFraction_35 : decode cX5_dueBehindFraction 35 = .ok (.iconst 0, 1) := by decide +kernel
theorem dX5_dueBehindFraction_36 : decode cX5_dueBehindFraction 36 = .ok (.putfield 39, 3) := by decide +kernel
theorem dX5_dueBehindFraction_39 : decode cX5_dueBehindFraction 39 = .ok (.iload_n 2, 1) := by decide +kernel
theorem dX5_dueBehindFraction_40 : decode cX5_dueBehindFraction 40 = .ok (.ireturn, 1) := by decide +kernel
theorem dX5_dueBehindNode_0 : decode cX5_dueBehindNode 0 = .ok (.aload_n 0, 1) := by decide +kernel
theorem dX5_dueBehindNode_1 : decode cX5_dueBehindNode 1 = .ok (.getfield 36, 3) := by decide +kernel
theorem dX5_dueBehindNode_4 : decode cX5_dueBehindNode 4 = .ok (.ifCond .le 22, 3) := by decide +kernel
theorem dX5_dueBehindNode_7 : decode cX5_dueBehindNode 7 = .ok (.iload_n 1, 1) := by decide +kernel
theorem dX5_dueBehindNode_8 : decode cX5_dueBehindNode 8 = .ok (.bipush 41, 2) := by decide +kernel
theorem dX5_dueBehindNode_10 : decode cX5_dueBehindNode 10 = .ok (.if_icmp .ne 16, 3) := by decide +kernel
theorem dX5_dueBehindNode_13 : decode cX5_dueBehindNode 13 = .ok (.aload_n 0, 1) := by decide +kernel
theorem dX5_dueBehindNode_14 : decode cX5_dueBehindNode 14 = .ok (.dup, 1) := by decide +kernel
theorem dX5_dueBehindNode_15 : decode cX5_dueBehindNode 15 = .ok (.getfield 36, 3) := by decide +kernel
theorem dX5_dueBehindNode_18 : decode cX5_dueBehindNode 18 = .ok (.iconst 1, 1) := by decide +kernel
theorem dX5_dueBehindNode_19 : decode cX5_dueBehindNode 19 = .ok (.isub, 1) := by decide +kernel
theorem dX5_dueBehindNode_20 : decode cX5_dueBehindNode 20 = .ok (.putfield 36, 3) := by decide +kernel
theorem dX5_dueBehindNode_23 : decode cX5_dueBehindNode 23 = .ok (.bipush 10, 2) := by decide +kernel
theorem dX5_dueBehindNode_25 : decode cX5_dueBehindNode 25 = .ok (.ireturn, 1) := by decide +kernel
theorem dX5_dueBehindNode_26 : decode cX5_dueBehindNode 26 = .ok (.aload_n 0, 1) := by decide +kernel
theorem dX5_dueBehindNode_27 : decode cX5_dueBehindNode 27 = .ok (.getfield 36, 3) := by decide +kernel
theorem dX5_dueBehindNode_30 : decode cX5_dueBehindNode 30 = .ok (.ifCond .le 29, 3) := by decide +kernel
theorem dX5_dueBehindNode_33 : decode cX5_dueBehindNode 33 = .ok (.iload_n 1, 1) := by decide +kernel
theorem dX5_dueBehindNode_34 : decode cX5_dueBehindNode 34 = .ok (.bipush 44, 2) := by decide +kernel
theorem dX5_dueBehindNode_36 : decode cX5_dueBehindNode 36 = .ok (.if_icmp .ne 23, 3) := by decide +kernel
theorem dX5_dueBehindNode_39 : decode cX5_dueBehindNode 39 = .ok (.aload_n 0, 1) := by decide +kernel
theorem dX5_dueBehindNode_40 : decode cX5_dueBehindNode 40 = .ok (.getfield 32, 3) := by decide +kernel
theorem dX5_dueBehindNode_43 : decode cX5_dueBehindNode 43 = .ok (.aload_n 0, 1) := by decide +kernel
theorem dX5_dueBehindNode_44 : decode cX5_dueBehindNode 44 = .ok (.getfield 36, 3) := by decide +kernel
theorem dX5_dueBehindNode_47 : decode cX5_dueBehindNode 47 = .ok (.iconst 1, 1) := by decide +kernel
theorem dX5_dueBehindNode_48 : decode cX5_dueBehindNode 48 = .ok (.isub, 1) := by decide +kernel
theorem dX5_dueBehindNode_49 : decode cX5_dueBehindNode 49 = .ok (.baload, 1) := by decide +kernel
theorem dX5_dueBehindNode_50 : decode cX5_dueBehindNode 50 = .ok (.ifCond .eq 7, 3) := by decide +kernel
theorem dX5_dueBehindNode_53 : decode cX5_dueBehindNode 53 = .ok (.iconst 5, 1) := by decide +kernel
theorem dX5_dueBehindNode_54 : decode cX5_dueBehindNode 54 = .ok (.goto 4, 3) := by decide +kernel
theorem dX5_dueBehindNode_57 : decode cX5_dueBehindNode 57 = .ok (.iconst 1, 1) := by decide +kernel
theorem dX5_dueBehindNode_58 : decode cX5_dueBehindNode 58 = .ok (.ireturn, 1) := by decide +kernel
theorem dX5_dueBehindNode_59 : decode cX5_dueBehindNode 59 = .ok (.iconst 0, 1) := by decide +kernel
theorem dX5_dueBehindNode_60 : decode cX5_dueBehindNode 60 = .ok (.ireturn, 1) := by decide +kernel
set_option maxRecDepth 20000 in
theorem ggX5_goThroughNode_X5_refuse : GoodIn wsX5_goThroughNode wsX5_refuse := goodIn_s _ [(10, 3), (111, 13)] rfl (by decide +kernel)
set_option maxRecDepth 20000 in
theorem gX5_goThroughNode_X5_refuse : GoodIn wsX5_goThroughNode (wsV RX5 77 RX5 yX5_refuse wsX5_refuse) := goodIn_app (goodIn_r _ [6, 7, 8, 9] rfl (by decide +kernel)) ggX5_goThroughNode_X5_refuse
set_option maxRecDepth 20000 in
theorem ggX5_goThroughNode_X5_goThroughEnd : GoodIn wsX5_goThroughNode wsX5_goThroughEnd := goodIn_s _ [(16, 2), (3, 2), (1, 2), (18, 10), (6, 7), (28, 22), (5, 1), (50, 9), (111, 23)] rfl (by decide +kernel)
set_option maxRecDepth 20000 in
theorem gX5_goThroughNode_X5_goThroughEnd : GoodIn wsX5_goThroughNode (wsV RX5 114 RX5 yX5_goThroughEnd wsX5_goThroughEnd) := goodIn_app (goodIn_r _ [13, 14, 15, 9] rfl (by decide +kernel)) ggX5_goThroughNode_X5_goThroughEnd
set_option maxRecDepth 20000 in
theorem ggX5_goThroughNode_X5_goThroughDraw : GoodIn wsX5_goThroughNode wsX5_goThroughDraw := goodIn_s _ [(102, 1), (3, 2), (17, 1), (1, 2), (5, 1), (22, 2), (6, 7), (28, 28), (20, 1), (56, 3), (103, 4), (94, 3), (107, 4), (65, 20), (19, 1), (21, 1), (85, 9), (97, 5), (0, 1), (13, 4), (18, 1), (24, 4), (59, 6), (111, 31)] rfl (by decide +kernel)
set_option maxRecDepth 20000 in
theorem gX5_goThroughNode_X5_goThroughDraw : GoodIn wsX5_goThroughNode (wsV RX5 118 RX5 yX5_goThroughDraw wsX5_goThroughDraw) := goodIn_app (goodIn_r _ [59, 60, 61, 9] rfl (by decide +kernel)) ggX5_goThroughNode_X5_goThroughDraw
set_option maxRecDepth 20000 in
theorem ggX5_goThroughNode_X5_goThroughChoice : GoodIn wsX5_goThroughNode wsX5_goThroughChoice := goodIn_s _ [(65, 1), (3, 3), (1, 1), (66, 1), (2, 1), (28, 18), (67, 3), (9, 1), (70, 1), (50, 1), (71, 1), (17, 1), (72, 8), (6, 3), (10, 3), (80, 5), (19, 3), (85, 18), (22, 2), (46, 4), (51, 8), (103, 8), (0, 1), (13, 4), (18, 1), (24, 4), (59, 6), (111, 31)] rfl (by decide +kernel)
