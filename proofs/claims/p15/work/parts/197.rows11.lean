set_option maxRecDepth 20000 in
theorem gX12_solve_X12_work : GoodIn wsX12_solve (wsV RX12 407 RX12 yX12_work wsX12_work) := goodIn_app (goodIn_r _ [60, 61, 62, 9] rfl (by decide +kernel)) ggX12_solve_X12_work
set_option maxRecDepth 20000 in
theorem ggX12_solve_X12_cell : GoodIn wsX12_solve wsX12_cell := goodIn_r _ [35] rfl (by decide +kernel)
set_option maxRecDepth 20000 in
theorem gX12_solve_X12_cell : GoodIn wsX12_solve (wsV RX12 381 RX12 yX12_cell wsX12_cell) := goodIn_app (goodIn_r _ [32, 33, 34, 9] rfl (by decide +kernel)) ggX12_solve_X12_cell
set_option maxRecDepth 20000 in
theorem ggX12_solve_X12_bigSet : GoodIn wsX12_solve wsX12_bigSet := goodIn_s _ [(39, 7), (9, 1), (46, 2), (157, 58)] rfl (by decide +kernel)
set_option maxRecDepth 20000 in
theorem gX12_solve_X12_bigSet : GoodIn wsX12_solve (wsV RX12 65 RX12 yX12_bigSet wsX12_bigSet) := goodIn_app (goodIn_r _ [36, 37, 38, 9] rfl (by decide +kernel)) ggX12_solve_X12_bigSet
set_option maxRecDepth 20000 in
theorem ggX12_solve_X12_bigProduct : GoodIn wsX12_solve wsX12_bigProduct := goodIn_s _ [(82, 1), (43, 1), (41, 1), (83, 1), (40, 1), (44, 2), (9, 1), (46, 2), (84, 4), (157, 58)] rfl (by decide +kernel)
set_option maxRecDepth 20000 in
theorem gX12_solve_X12_bigProduct : GoodIn wsX12_solve (wsV RX12 78 RX12 yX12_bigProduct wsX12_bigProduct) := goodIn_app (goodIn_r _ [79, 80, 81, 9] rfl (by decide +kernel)) ggX12_solve_X12_bigProduct
set_option maxRecDepth 20000 in
theorem ggX12_solve_X12_turnSign : GoodIn wsX12_solve wsX12_turnSign := goodIn_s _ [(152, 1), (40, 1), (145, 3), (9, 1), (148, 1), (43, 1), (157, 58)] rfl (by decide +kernel)
set_option maxRecDepth 20000 in
theorem gX12_solve_X12_turnSign : GoodIn wsX12_solve (wsV RX12 400 RX12 yX12_turnSign wsX12_turnSign) := goodIn_app (goodIn_r _ [149, 150, 151, 9] rfl (by decide +kernel)) ggX12_solve_X12_turnSign
set_option maxRecDepth 20000 in
theorem ggX12_solve_X12_bigAdd : GoodIn wsX12_solve wsX12_bigAdd := goodIn_s _ [(115, 1), (40, 1), (116, 3), (9, 1), (119, 1), (43, 1), (41, 1), (120, 1), (96, 4), (44, 4), (92, 4), (121, 4), (84, 4), (157, 58)] rfl (by decide +kernel)
set_option maxRecDepth 20000 in
theorem gX12_solve_X12_bigAdd : GoodIn wsX12_solve (wsV RX12 81 RX12 yX12_bigAdd wsX12_bigAdd) := goodIn_app (goodIn_r _ [112, 113, 114, 9] rfl (by decide +kernel)) ggX12_solve_X12_bigAdd
set_option maxRecDepth 20000 in
theorem ggX12_solve_X12_settle : GoodIn wsX12_solve wsX12_settle := goodIn_s _ [(156, 1), (40, 1), (145, 3), (9, 1), (148, 1), (43, 1), (36, 4), (41, 2), (44, 4), (104, 4), (133, 4), (83, 1), (96, 4), (137, 8), (84, 4), (125, 8), (157, 58)] rfl (by decide +kernel)
set_option maxRecDepth 20000 in
theorem gX12_solve_X12_settle : GoodIn wsX12_solve (wsV RX12 75 RX12 yX12_settle wsX12_settle) := goodIn_app (goodIn_r _ [153, 154, 155, 9] rfl (by decide +kernel)) ggX12_solve_X12_settle
theorem dX12_solve_0 : decode cX12_solve 0 = .ok (.aload_n 0, 1) := by decide +kernel
theorem dX12_solve_1 : decode cX12_solve 1 = .ok (.aload_n 0, 1) := by decide +kernel
theorem dX12_solve_2 : decode cX12_solve 2 = .ok (.getfield 331, 3) := by decide +kernel
theorem dX12_solve_5 : decode cX12_solve 5 = .ok (.ifCond .eq 7, 3) := by decide +kernel
theorem dX12_solve_8 : decode cX12_solve 8 = .ok (.iconst 0, 1) := by decide +kernel
theorem dX12_solve_9 : decode cX12_solve 9 = .ok (.goto 4, 3) := by decide +kernel
theorem dX12_solve_12 : decode cX12_solve 12 = .ok (.iconst 1, 1) := by decide +kernel
theorem dX12_solve_13 : decode cX12_solve 13 = .ok (.putfield 223, 3) := by decide +kernel
theorem dX12_solve_16 : decode cX12_solve 16 = .ok (.aload_n 0, 1) := by decide +kernel
theorem dX12_solve_17 : decode cX12_solve 17 = .ok (.getfield 223, 3) := by decide +kernel
theorem dX12_solve_20 : decode cX12_solve 20 = .ok (.ifCond .le 4, 3) := by decide +kernel
theorem dX12_solve_23 : decode cX12_solve 23 = .ok (.return_, 1) := by decide +kernel
theorem dX12_solve_24 : decode cX12_solve 24 = .ok (.aload_n 0, 1) := by decide +kernel
theorem dX12_solve_25 : decode cX12_solve 25 = .ok (.aload_n 0, 1) := by decide +kernel
theorem dX12_solve_26 : decode cX12_solve 26 = .ok (.getfield 328, 3) := by decide +kernel
theorem dX12_solve_29 : decode cX12_solve 29 = .ok (.iconst 0, 1) := by decide +kernel
theorem dX12_solve_30 : decode cX12_solve 30 = .ok (.invokevirtual 313, 3) := by decide +kernel
theorem dX12_solve_33 : decode cX12_solve 33 = .ok (.istore_n 1, 1) := by decide +kernel
theorem dX12_solve_34 : decode cX12_solve 34 = .ok (.aload_n 0, 1) := by decide +kernel
theorem dX12_solve_35 : decode cX12_solve 35 = .ok (.aload_n 0, 1) := by decide +kernel
theorem dX12_solve_36 : decode cX12_solve 36 = .ok (.getfield 328, 3) := by decide +kernel
theorem dX12_solve_39 : decode cX12_solve 39 = .ok (.iconst 1, 1) := by decide +kernel
theorem dX12_solve_40 : decode cX12_solve 40 = .ok (.invokevirtual 313, 3) := by decide +kernel
theorem dX12_solve_43 : decode cX12_solve 43 = .ok (.istore_n 2, 1) := by decide +kernel
theorem dX12_solve_44 : decode cX12_solve 44 = .ok (.aload_n 0, 1) := by decide +kernel
theorem dX12_solve_45 : decode cX12_solve 45 = .ok (.iload_n 1, 1) := by decide +kernel
theorem dX12_solve_46 : decode cX12_solve 46 = .ok (.iload_n 2, 1) := by decide +kernel
theorem dX12_solve_47 : decode cX12_solve 47 = .ok (.invokevirtual 403, 3) := by decide +kernel
theorem dX12_solve_50 : decode cX12_solve 50 = .ok (.lstore_n 3, 1) := by decide +kernel
theorem dX12_solve_51 : decode cX12_solve 51 = .ok (.aload_n 0, 1) := by decide +kernel
theorem dX12_solve_52 : decode cX12_solve 52 = .ok (.iload_n 1, 1) := by decide +kernel
theorem dX12_solve_53 : decode cX12_solve 53 = .ok (.iload_n 2, 1) := by decide +kernel
theorem dX12_solve_54 : decode cX12_solve 54 = .ok (.invokevirtual 407, 3) := by decide +kernel
theorem dX12_solve_57 : decode cX12_solve 57 = .ok (.aload_n 0, 1) := by decide +kernel
theorem dX12_solve_58 : decode cX12_solve 58 = .ok (.iload_n 1, 1) := by decide +kernel
theorem dX12_solve_59 : decode cX12_solve 59 = .ok (.iload_n 2, 1) := by decide +kernel
theorem dX12_solve_60 : decode cX12_solve 60 = .ok (.invokevirtual 381, 3) := by decide +kernel
theorem dX12_solve_63 : decode cX12_solve 63 = .ok (.istore 5, 2) := by decide +kernel
theorem dX12_solve_65 : decode cX12_solve 65 = .ok (.aload_n 0, 1) := by decide +kernel
theorem dX12_solve_66 : decode cX12_solve 66 = .ok (.sipush 4229, 3) := by decide +kernel
theorem dX12_solve_69 : decode cX12_solve 69 = .ok (.lload_n 3, 1) := by decide +kernel
theorem dX12_solve_70 : decode cX12_solve 70 = .ok (.invokevirtual 65, 3) := by decide +kernel
theorem dX12_solve_73 : decode cX12_solve 73 = .ok (.aload_n 0, 1) := by decide +kernel
theorem dX12_solve_74 : decode cX12_solve 74 = .ok (.sipush 4243, 3) := by decide +kernel
theorem dX12_solve_77 : decode cX12_solve 77 = .ok (.sipush 4229, 3) := by decide +kernel
theorem dX12_solve_80 : decode cX12_solve 80 = .ok (.iload 5, 2) := by decide +kernel
theorem dX12_solve_82 : decode cX12_solve 82 = .ok (.invokevirtual 78, 3) := by decide +kernel
theorem dX12_solve_85 : decode cX12_solve 85 = .ok (.aload_n 0, 1) := by decide +kernel
theorem dX12_solve_86 : decode cX12_solve 86 = .ok (.sipush 4243, 3) := by decide +kernel
theorem dX12_solve_89 : decode cX12_solve 89 = .ok (.invokevirtual 400, 3) := by decide +kernel
theorem dX12_solve_92 : decode cX12_solve 92 = .ok (.aload_n 0, 1) := by decide +kernel
theorem dX12_solve_93 : decode cX12_solve 93 = .ok (.sipush 4243, 3) := by decide +kernel
theorem dX12_solve_96 : decode cX12_solve 96 = .ok (.sipush 4225, 3) := by decide +kernel
theorem dX12_solve_99 : decode cX12_solve 99 = .ok (.iconst 0, 1) := by decide +kernel
theorem dX12_solve_100 : decode cX12_solve 100 = .ok (.invokevirtual 81, 3) := by decide +kernel
theorem dX12_solve_103 : decode cX12_solve 103 = .ok (.aload_n 0, 1) := by decide +kernel
theorem dX12_solve_104 : decode cX12_solve 104 = .ok (.sipush 4230, 3) := by decide +kernel
theorem dX12_solve_107 : decode cX12_solve 107 = .ok (.aload_n 0, 1) := by decide +kernel
theorem dX12_solve_108 : decode cX12_solve 108 = .ok (.getfield 151, 3) := by decide +kernel
theorem dX12_solve_111 : decode cX12_solve 111 = .ok (.aload_n 0, 1) := by decide +kernel
theorem dX12_solve_112 : decode cX12_solve 112 = .ok (.getfield 328, 3) := by decide +kernel
theorem dX12_solve_115 : decode cX12_solve 115 = .ok (.laload, 1) := by decide +kernel
theorem dX12_solve_116 : decode cX12_solve 116 = .ok (.invokevirtual 65, 3) := by decide +kernel
theorem dX12_solve_119 : decode cX12_solve 119 = .ok (.aload_n 0, 1) := by decide +kernel
theorem dX12_solve_120 : decode cX12_solve 120 = .ok (.sipush 4244, 3) := by decide +kernel
theorem dX12_solve_123 : decode cX12_solve 123 = .ok (.sipush 4230, 3) := by decide +kernel
theorem dX12_solve_126 : decode cX12_solve 126 = .ok (.iload 5, 2) := by decide +kernel
theorem dX12_solve_128 : decode cX12_solve 128 = .ok (.invokevirtual 78, 3) := by decide +kernel
theorem dX12_solve_131 : decode cX12_solve 131 = .ok (.aload_n 0, 1) := by decide +kernel
theorem dX12_solve_132 : decode cX12_solve 132 = .ok (.sipush 4231, 3) := by decide +kernel
theorem dX12_solve_135 : decode cX12_solve 135 = .ok (.invokevirtual 75, 3) := by decide +kernel
theorem dX12_solve_138 : decode cX12_solve 138 = .ok (.aload_n 0, 1) := by decide +kernel
theorem dX12_solve_139 : decode cX12_solve 139 = .ok (.getfield 205, 3) := by decide +kernel
theorem dX12_solve_142 : decode cX12_solve 142 = .ok (.iconst 0, 1) := by decide +kernel
theorem dX12_solve_143 : decode cX12_solve 143 = .ok (.iconst 1, 1) := by decide +kernel
theorem dX12_solve_144 : decode cX12_solve 144 = .ok (.bastore, 1) := by decide +kernel
theorem dX12_solve_145 : decode cX12_solve 145 = .ok (.return_, 1) := by decide +kernel
theorem dX12_has_0 : decode cX12_has 0 = .ok (.iload_n 1, 1) := by decide +kernel
theorem dX12_has_1 : decode cX12_has 1 = .ok (.ifCond .lt 21, 3) := by decide +kernel
theorem dX12_has_4 : decode cX12_has 4 = .ok (.iload_n 1, 1) := by decide +kernel
theorem dX12_has_5 : decode cX12_has 5 = .ok (.iconst 4, 1) := by decide +kernel
theorem dX12_has_6 : decode cX12_has 6 = .ok (.if_icmp .ge 16, 3) := by decide +kernel
theorem dX12_has_9 : decode cX12_has 9 = .ok (.aload_n 0, 1) := by decide +kernel
theorem dX12_has_10 : decode cX12_has 10 = .ok (.getfield 205, 3) := by decide +kernel
theorem dX12_has_13 : decode cX12_has 13 = .ok (.iload_n 1, 1) := by decide +kernel
theorem dX12_has_14 : decode cX12_has 14 = .ok (.baload, 1) := by decide +kernel
theorem dX12_has_15 : decode cX12_has 15 = .ok (.ifCond .eq 7, 3) := by decide +kernel
theorem dX12_has_18 : decode cX12_has 18 = .ok (.iconst 1, 1) := by decide +kernel
theorem dX12_has_19 : decode cX12_has 19 = .ok (.goto 4, 3) := by decide +kernel
theorem dX12_has_22 : decode cX12_has 22 = .ok (.iconst 0, 1) := by decide +kernel
theorem dX12_has_23 : decode cX12_has 23 = .ok (.ireturn, 1) := by decide +kernel
set_option maxRecDepth 20000 in
theorem ggX12_say_X12_bigCopy : GoodIn wsX12_say wsX12_bigCopy := goodIn_s _ [(7, 6), (6, 1), (13, 2), (28, 58)] rfl (by decide +kernel)
set_option maxRecDepth 20000 in
theorem gX12_say_X12_bigCopy : GoodIn wsX12_say (wsV RX12 58 RX12 yX12_bigCopy wsX12_bigCopy) := goodIn_app (goodIn_r _ [3, 4, 5, 6] rfl (by decide +kernel)) ggX12_say_X12_bigCopy
set_option maxRecDepth 20000 in
theorem ggX12_say_X12_bigTenth : GoodIn wsX12_say wsX12_bigTenth := goodIn_s _ [(18, 1), (9, 1), (19, 1), (10, 3), (6, 1), (13, 2), (20, 4), (28, 58)] rfl (by decide +kernel)
set_option maxRecDepth 20000 in
theorem gX12_say_X12_bigTenth : GoodIn wsX12_say (wsV RX12 413 RX12 yX12_bigTenth wsX12_bigTenth) := goodIn_app (goodIn_r _ [15, 16, 17, 6] rfl (by decide +kernel)) ggX12_say_X12_bigTenth
set_option maxRecDepth 20000 in
theorem ggX12_say_X12_bigIsZero : GoodIn wsX12_say wsX12_bigIsZero := goodIn_s _ [(27, 1), (9, 1), (28, 58)] rfl (by decide +kernel)
set_option maxRecDepth 20000 in
theorem gX12_say_X12_bigIsZero : GoodIn wsX12_say (wsV RX12 54 RX12 yX12_bigIsZero wsX12_bigIsZero) := goodIn_app (goodIn_r _ [24, 25, 26, 6] rfl (by decide +kernel)) ggX12_say_X12_bigIsZero
theorem dX12_say_0 : decode cX12_say 0 = .ok (.aload_n 0, 1) := by decide +kernel
theorem dX12_say_1 : decode cX12_say 1 = .ok (.sipush 4228, 3) := by decide +kernel
theorem dX12_say_4 : decode cX12_say 4 = .ok (.iload_n 1, 1) := by decide +kernel
theorem dX12_say_5 : decode cX12_say 5 = .ok (.invokevirtual 58, 3) := by decide +kernel
theorem dX12_say_8 : decode cX12_say 8 = .ok (.aload_n 0, 1) := by decide +kernel
theorem dX12_say_9 : decode cX12_say 9 = .ok (.getfield 410, 3) := by decide +kernel
theorem dX12_say_12 : decode cX12_say 12 = .ok (.istore_n 2, 1) := by decide +kernel
theorem dX12_say_13 : decode cX12_say 13 = .ok (.aload_n 0, 1) := by decide +kernel
theorem dX12_say_14 : decode cX12_say 14 = .ok (.getfield 220, 3) := by decide +kernel
theorem dX12_say_17 : decode cX12_say 17 = .ok (.aload_n 0, 1) := by decide +kernel
theorem dX12_say_18 : decode cX12_say 18 = .ok (.getfield 410, 3) := by decide +kernel
theorem dX12_say_21 : decode cX12_say 21 = .ok (.bipush 48, 2) := by decide +kernel
theorem dX12_say_23 : decode cX12_say 23 = .ok (.aload_n 0, 1) := by decide +kernel
theorem dX12_say_24 : decode cX12_say 24 = .ok (.sipush 4228, 3) := by decide +kernel
theorem dX12_say_27 : decode cX12_say 27 = .ok (.invokevirtual 413, 3) := by decide +kernel
theorem dX12_say_30 : decode cX12_say 30 = .ok (.iadd, 1) := by decide +kernel
theorem dX12_say_31 : decode cX12_say 31 = .ok (.iastore, 1) := by decide +kernel
theorem dX12_say_32 : decode cX12_say 32 = .ok (.aload_n 0, 1) := by decide +kernel
theorem dX12_say_33 : decode cX12_say 33 = .ok (.dup, 1) := by decide +kernel
theorem dX12_say_34 : decode cX12_say 34 = .ok (.getfield 410, 3) := by decide +kernel
theorem dX12_say_37 : decode cX12_say 37 = .ok (.iconst 1, 1) := by decide +kernel
theorem dX12_say_38 : decode cX12_say 38 = .ok (.iadd, 1) := by decide +kernel
theorem dX12_say_39 : decode cX12_say 39 = .ok (.putfield 410, 3) := by decide +kernel
theorem dX12_say_42 : decode cX12_say 42 = .ok (.aload_n 0, 1) := by decide +kernel
theorem dX12_say_43 : decode cX12_say 43 = .ok (.sipush 4228, 3) := by decide +kernel
theorem dX12_say_46 : decode cX12_say 46 = .ok (.invokevirtual 54, 3) := by decide +kernel
theorem dX12_say_49 : decode cX12_say 49 = .ok (.ifCond .eq (-36), 3) := by decide +kernel
theorem dX12_say_52 : decode cX12_say 52 = .ok (.iload_n 2, 1) := by decide +kernel
theorem dX12_say_53 : decode cX12_say 53 = .ok (.istore_n 3, 1) := by decide +kernel
theorem dX12_say_54 : decode cX12_say 54 = .ok (.aload_n 0, 1) := by decide +kernel
theorem dX12_say_55 : decode cX12_say 55 = .ok (.getfield 410, 3) := by decide +kernel
theorem dX12_say_58 : decode cX12_say 58 = .ok (.iconst 1, 1) := by decide +kernel
theorem dX12_say_59 : decode cX12_say 59 = .ok (.isub, 1) := by decide +kernel
theorem dX12_say_60 : decode cX12_say 60 = .ok (.istore 4, 2) := by decide +kernel
theorem dX12_say_62 : decode cX12_say 62 = .ok (.iload_n 3, 1) := by decide +kernel
theorem dX12_say_63 : decode cX12_say 63 = .ok (.iload 4, 2) := by decide +kernel
theorem dX12_say_65 : decode cX12_say 65 = .ok (.if_icmp .ge 42, 3) := by decide +kernel
theorem dX12_say_68 : decode cX12_say 68 = .ok (.aload_n 0, 1) := by decide +kernel
theorem dX12_say_69 : decode cX12_say 69 = .ok (.getfield 220, 3) := by decide +kernel
theorem dX12_say_72 : decode cX12_say 72 = .ok (.iload_n 3, 1) := by decide +kernel
theorem dX12_say_73 : decode cX12_say 73 = .ok (.iaload, 1) := by decide +kernel
theorem dX12_say_74 : decode cX12_say 74 = .ok (.istore 5, 2) := by decide +kernel
theorem dX12_say_76 : decode cX12_say 76 = .ok (.aload_n 0, 1) := by decide +kernel
theorem dX12_say_77 : decode cX12_say 77 = .ok (.getfield 220, 3) := by decide +kernel
theorem dX12_say_80 : decode cX12_say 80 = .ok (.iload_n 3, 1) := by decide +kernel
theorem dX12_say_81 : decode cX12_say 81 = .ok (.aload_n 0, 1) := by decide +kernel
theorem dX12_say_82 : decode cX12_say 82 = .ok (.getfield 220, 3) := by decide +kernel
theorem dX12_say_85 : decode cX12_say 85 = .ok (.iload 4, 2) := by decide +kernel
theorem dX12_say_87 : decode cX12_say 87 = .ok (.iaload, 1) := by decide +kernel
theorem dX12_say_88 : decode cX12_say 88 = .ok (.iastore, 1) := by decide +kernel
theorem dX12_say_89 : decode cX12_say 89 = .ok (.aload_n 0, 1) := by decide +kernel
theorem dX12_say_90 : decode cX12_say 90 = .ok (.getfield 220, 3) := by decide +kernel
theorem dX12_say_93 : decode cX12_say 93 = .ok (.iload 4, 2) := by decide +kernel
theorem dX12_say_95 : decode cX12_say 95 = .ok (.iload 5, 2) := by decide +kernel
theorem dX12_say_97 : decode cX12_say 97 = .ok (.iastore, 1) := by decide +kernel
theorem dX12_say_98 : decode cX12_say 98 = .ok (.iinc 3 1, 3) := by decide +kernel
theorem dX12_say_101 : decode cX12_say 101 = .ok (.iinc 4 (-1), 3) := by decide +kernel
theorem dX12_say_104 : decode cX12_say 104 = .ok (.goto (-42), 3) := by decide +kernel
theorem dX12_say_107 : decode cX12_say 107 = .ok (.return_, 1) := by decide +kernel
set_option maxRecDepth 20000 in
theorem ggX12_print_X12_has : GoodIn wsX12_print wsX12_has := goodIn_s _ [(8, 2), (46, 58)] rfl (by decide +kernel)
set_option maxRecDepth 20000 in
theorem gX12_print_X12_has : GoodIn wsX12_print (wsV RX12 416 RX12 yX12_has wsX12_has) := goodIn_app (goodIn_r _ [4, 5, 6, 7] rfl (by decide +kernel)) ggX12_print_X12_has
set_option maxRecDepth 20000 in
theorem ggX12_print_X12_bigSign : GoodIn wsX12_print wsX12_bigSign := goodIn_s _ [(13, 3), (46, 58)] rfl (by decide +kernel)
set_option maxRecDepth 20000 in
theorem gX12_print_X12_bigSign : GoodIn wsX12_print (wsV RX12 25 RX12 yX12_bigSign wsX12_bigSign) := goodIn_app (goodIn_r _ [10, 11, 12, 7] rfl (by decide +kernel)) ggX12_print_X12_bigSign
set_option maxRecDepth 20000 in
theorem ggX12_print_X12_say : GoodIn wsX12_print wsX12_say := goodIn_s _ [(19, 1), (2, 2), (20, 3), (7, 1), (23, 1), (15, 1), (14, 1), (24, 18), (46, 58)] rfl (by decide +kernel)
set_option maxRecDepth 20000 in
theorem gX12_print_X12_say : GoodIn wsX12_print (wsV RX12 419 RX12 yX12_say wsX12_say) := goodIn_app (goodIn_r _ [16, 17, 18, 7] rfl (by decide +kernel)) ggX12_print_X12_say
set_option maxRecDepth 20000 in
theorem ggX12_print_X12_bigIsOne : GoodIn wsX12_print wsX12_bigIsOne := goodIn_s _ [(45, 1), (14, 1), (24, 3), (7, 1), (27, 2), (46, 58)] rfl (by decide +kernel)
set_option maxRecDepth 20000 in
theorem gX12_print_X12_bigIsOne : GoodIn wsX12_print (wsV RX12 69 RX12 yX12_bigIsOne wsX12_bigIsOne) := goodIn_app (goodIn_r _ [42, 43, 44, 7] rfl (by decide +kernel)) ggX12_print_X12_bigIsOne
theorem dX12_print_0 : decode cX12_print 0 = .ok (.aload_n 0, 1) := by decide +kernel
theorem dX12_print_1 : decode cX12_print 1 = .ok (.iconst 0, 1) := by decide +kernel
theorem dX12_print_2 : decode cX12_print 2 = .ok (.putfield 223, 3) := by decide +kernel
theorem dX12_print_5 : decode cX12_print 5 = .ok (.aload_n 0, 1) := by decide +kernel
theorem dX12_print_6 : decode cX12_print 6 = .ok (.iload_n 1, 1) := by decide +kernel
theorem dX12_print_7 : decode cX12_print 7 = .ok (.invokevirtual 416, 3) := by decide +kernel
theorem dX12_print_10 : decode cX12_print 10 = .ok (.ifCond .ne 5, 3) := by decide +kernel
theorem dX12_print_13 : decode cX12_print 13 = .ok (.iconst (-1), 1) := by decide +kernel
theorem dX12_print_14 : decode cX12_print 14 = .ok (.ireturn, 1) := by decide +kernel
theorem dX12_print_15 : decode cX12_print 15 = .ok (.sipush 4231, 3) := by decide +kernel
theorem dX12_print_18 : decode cX12_print 18 = .ok (.iconst 2, 1) := by decide +kernel
theorem dX12_print_19 : decode cX12_print 19 = .ok (.iload_n 1, 1) := by decide +kernel
theorem dX12_print_20 : decode cX12_print 20 = .ok (.imul, 1) := by decide +kernel
theorem dX12_print_21 : decode cX12_print 21 = .ok (.iadd, 1) := by decide +kernel
theorem dX12_print_22 : decode cX12_print 22 = .ok (.istore_n 2, 1) := by decide +kernel
theorem dX12_print_23 : decode cX12_print 23 = .ok (.aload_n 0, 1) := by decide +kernel
theorem dX12_print_24 : decode cX12_print 24 = .ok (.iconst 0, 1) := by decide +kernel
theorem dX12_print_25 : decode cX12_print 25 = .ok (.putfield 410, 3) := by decide +kernel
theorem dX12_print_28 : decode cX12_print 28 = .ok (.aload_n 0, 1) := by decide +kernel
theorem dX12_print_29 : decode cX12_print 29 = .ok (.iload_n 2, 1) := by decide +kernel
theorem dX12_print_30 : decode cX12_print 30 = .ok (.invokevirtual 25, 3) := by decide +kernel
theorem dX12_print_33 : decode cX12_print 33 = .ok (.ifCond .ge 16, 3) := by decide +kernel
theorem dX12_print_36 : decode cX12_print 36 = .ok (.aload_n 0, 1) := by decide +kernel
theorem dX12_print_37 : decode cX12_print 37 = .ok (.getfield 220, 3) := by decide +kernel
theorem dX12_print_40 : decode cX12_print 40 = .ok (.iconst 0, 1) := by decide +kernel
theorem dX12_print_41 : decode cX12_print 41 = .ok (.bipush 45, 2) := by decide +kernel
theorem dX12_print_43 : decode cX12_print 43 = .ok (.iastore, 1) := by decide +kernel
theorem dX12_print_44 : decode cX12_print 44 = .ok (.aload_n 0, 1) := by decide +kernel
theorem dX12_print_45 : decode cX12_print 45 = .ok (.iconst 1, 1) := by decide +kernel
theorem dX12_print_46 : decode cX12_print 46 = .ok (.putfield 410, 3) := by decide +kernel
theorem dX12_print_49 : decode cX12_print 49 = .ok (.aload_n 0, 1) := by decide +kernel
theorem dX12_print_50 : decode cX12_print 50 = .ok (.iload_n 2, 1) := by decide +kernel
theorem dX12_print_51 : decode cX12_print 51 = .ok (.invokevirtual 419, 3) := by decide +kernel
theorem dX12_print_54 : decode cX12_print 54 = .ok (.aload_n 0, 1) := by decide +kernel
theorem dX12_print_55 : decode cX12_print 55 = .ok (.iload_n 2, 1) := by decide +kernel
theorem dX12_print_56 : decode cX12_print 56 = .ok (.iconst 1, 1) := by decide +kernel
theorem dX12_print_57 : decode cX12_print 57 = .ok (.iadd, 1) := by decide +kernel
theorem dX12_print_58 : decode cX12_print 58 = .ok (.invokevirtual 69, 3) := by decide +kernel
theorem dX12_print_61 : decode cX12_print 61 = .ok (.ifCond .ne 31, 3) := by decide +kernel
theorem dX12_print_64 : decode cX12_print 64 = .ok (.aload_n 0, 1) := by decide +kernel
theorem dX12_print_65 : decode cX12_print 65 = .ok (.getfield 220, 3) := by decide +kernel
theorem dX12_print_68 : decode cX12_print 68 = .ok (.aload_n 0, 1) := by decide +kernel
theorem dX12_print_69 : decode cX12_print 69 = .ok (.getfield 410, 3) := by decide +kernel
theorem dX12_print_72 : decode cX12_print 72 = .ok (.bipush 47, 2) := by decide +kernel
theorem dX12_print_74 : decode cX12_print 74 = .ok (.iastore, 1) := by decide +kernel
theorem dX12_print_75 : decode cX12_print 75 = .ok (.aload_n 0, 1) := by decide +kernel
theorem dX12_print_76 : decode cX12_print 76 = .ok (.dup, 1) := by decide +kernel
theorem dX12_print_77 : decode cX12_print 77 = .ok (.getfield 410, 3) := by decide +kernel
theorem dX12_print_80 : decode cX12_print 80 = .ok (.iconst 1, 1) := by decide +kernel
theorem dX12_print_81 : decode cX12_print 81 = .ok (.iadd, 1) := by decide +kernel
theorem dX12_print_82 : decode cX12_print 82 = .ok (.putfield 410, 3) := by decide +kernel
theorem dX12_print_85 : decode cX12_print 85 = .ok (.aload_n 0, 1) := by decide +kernel
theorem dX12_print_86 : decode cX12_print 86 = .ok (.iload_n 2, 1) := by decide +kernel
theorem dX12_print_87 : decode cX12_print 87 = .ok (.iconst 1, 1) := by decide +kernel
theorem dX12_print_88 : decode cX12_print 88 = .ok (.iadd, 1) := by decide +kernel
theorem dX12_print_89 : decode cX12_print 89 = .ok (.invokevirtual 419, 3) := by decide +kernel
theorem dX12_print_92 : decode cX12_print 92 = .ok (.aload_n 0, 1) := by decide +kernel
theorem dX12_print_93 : decode cX12_print 93 = .ok (.getfield 410, 3) := by decide +kernel
theorem dX12_print_96 : decode cX12_print 96 = .ok (.ireturn, 1) := by decide +kernel
theorem dX12_character_0 : decode cX12_character 0 = .ok (.aload_n 0, 1) := by decide +kernel
theorem dX12_character_1 : decode cX12_character 1 = .ok (.iconst 0, 1) := by decide +kernel
theorem dX12_character_2 : decode cX12_character 2 = .ok (.putfield 223, 3) := by decide +kernel
theorem dX12_character_5 : decode cX12_character 5 = .ok (.iload_n 1, 1) := by decide +kernel
theorem dX12_character_6 : decode cX12_character 6 = .ok (.ifCond .lt 20, 3) := by decide +kernel
theorem dX12_character_9 : decode cX12_character 9 = .ok (.iload_n 1, 1) := by decide +kernel
theorem dX12_character_10 : decode cX12_character 10 = .ok (.aload_n 0, 1) := by decide +kernel
theorem dX12_character_11 : decode cX12_character 11 = .ok (.getfield 410, 3) := by decide +kernel
theorem dX12_character_14 : decode cX12_character 14 = .ok (.if_icmp .ge 12, 3) := by decide +kernel
theorem dX12_character_17 : decode cX12_character 17 = .ok (.aload_n 0, 1) := by decide +kernel
theorem dX12_character_18 : decode cX12_character 18 = .ok (.getfield 220, 3) := by decide +kernel
theorem dX12_character_21 : decode cX12_character 21 = .ok (.iload_n 1, 1) := by decide +kernel
theorem dX12_character_22 : decode cX12_character 22 = .ok (.iaload, 1) := by decide +kernel
theorem dX12_character_23 : decode cX12_character 23 = .ok (.goto 4, 3) := by decide +kernel
theorem dX12_character_26 : decode cX12_character 26 = .ok (.iconst (-1), 1) := by decide +kernel
theorem dX12_character_27 : decode cX12_character 27 = .ok (.ireturn, 1) := by decide +kernel
set_option maxRecDepth 20000 in
theorem ggX12_compare_X12_has : GoodIn wsX12_compare wsX12_has := goodIn_s _ [(6, 2), (44, 58)] rfl (by decide +kernel)
set_option maxRecDepth 20000 in
theorem gX12_compare_X12_has : GoodIn wsX12_compare (wsV RX12 416 RX12 yX12_has wsX12_has) := goodIn_app (goodIn_r _ [2, 3, 4, 5] rfl (by decide +kernel)) ggX12_compare_X12_has
set_option maxRecDepth 20000 in
theorem ggX12_compare_X12_compareFractions : GoodIn wsX12_compare wsX12_compareFractions := goodIn_s _ [(11, 4), (5, 1), (15, 87)] rfl (by decide +kernel)
set_option maxRecDepth 20000 in
theorem gX12_compare_X12_compareFractions : GoodIn wsX12_compare (wsV RX12 371 RX12 yX12_compareFractions wsX12_compareFractions) := goodIn_app (goodIn_r _ [8, 9, 10, 5] rfl (by decide +kernel)) ggX12_compare_X12_compareFractions
theorem dX12_compare_0 : decode cX12_compare 0 = .ok (.aload_n 0, 1) := by decide +kernel
theorem dX12_compare_1 : decode cX12_compare 1 = .ok (.iconst 0, 1) := by decide +kernel
theorem dX12_compare_2 : decode cX12_compare 2 = .ok (.putfield 223, 3) := by decide +kernel
theorem dX12_compare_5 : decode cX12_compare 5 = .ok (.aload_n 0, 1) := by decide +kernel
theorem dX12_compare_6 : decode cX12_compare 6 = .ok (.iload_n 1, 1) := by decide +kernel
theorem dX12_compare_7 : decode cX12_compare 7 = .ok (.invokevirtual 416, 3) := by decide +kernel
theorem dX12_compare_10 : decode cX12_compare 10 = .ok (.ifCond .eq 32, 3) := by decide +kernel
theorem dX12_compare_13 : decode cX12_compare 13 = .ok (.aload_n 0, 1) := by decide +kernel
theorem dX12_compare_14 : decode cX12_compare 14 = .ok (.iload_n 2, 1) := by decide +kernel
theorem dX12_compare_15 : decode cX12_compare 15 = .ok (.invokevirtual 416, 3) := by decide +kernel
theorem dX12_compare_18 : decode cX12_compare 18 = .ok (.ifCond .eq 24, 3) := by decide +kernel
theorem dX12_compare_21 : decode cX12_compare 21 = .ok (.aload_n 0, 1) := by decide +kernel
theorem dX12_compare_22 : decode cX12_compare 22 = .ok (.sipush 4231, 3) := by decide +kernel
theorem dX12_compare_25 : decode cX12_compare 25 = .ok (.iconst 2, 1) := by decide +kernel
theorem dX12_compare_26 : decode cX12_compare 26 = .ok (.iload_n 1, 1) := by decide +kernel
theorem dX12_compare_27 : decode cX12_compare 27 = .ok (.imul, 1) := by decide +kernel
theorem dX12_compare_28 : decode cX12_compare 28 = .ok (.iadd, 1) := by decide +kernel
theorem dX12_compare_29 : decode cX12_compare 29 = .ok (.sipush 4231, 3) := by decide +kernel
theorem dX12_compare_32 : decode cX12_compare 32 = .ok (.iconst 2, 1) := by decide +kernel
theorem dX12_compare_33 : decode cX12_compare 33 = .ok (.iload_n 2, 1) := by decide +kernel
theorem dX12_compare_34 : decode cX12_compare 34 = .ok (.imul, 1) := by decide +kernel
theorem dX12_compare_35 : decode cX12_compare 35 = .ok (.iadd, 1) := by decide +kernel
theorem dX12_compare_36 : decode cX12_compare 36 = .ok (.invokevirtual 371, 3) := by decide +kernel
theorem dX12_compare_39 : decode cX12_compare 39 = .ok (.goto 5, 3) := by decide +kernel
theorem dX12_compare_42 : decode cX12_compare 42 = .ok (.bipush (-2), 2) := by decide +kernel
theorem dX12_compare_44 : decode cX12_compare 44 = .ok (.ireturn, 1) := by decide +kernel
theorem dX12_check_0 : decode cX12_check 0 = .ok (.aload_n 0, 1) := by decide +kernel
theorem dX12_check_1 : decode cX12_check 1 = .ok (.iconst 0, 1) := by decide +kernel
theorem dX12_check_2 : decode cX12_check 2 = .ok (.putfield 223, 3) := by decide +kernel
theorem dX12_check_5 : decode cX12_check 5 = .ok (.aload_n 0, 1) := by decide +kernel
theorem dX12_check_6 : decode cX12_check 6 = .ok (.getfield 205, 3) := by decide +kernel
theorem dX12_check_9 : decode cX12_check 9 = .ok (.iconst 0, 1) := by decide +kernel
theorem dX12_check_10 : decode cX12_check 10 = .ok (.baload, 1) := by decide +kernel
theorem dX12_check_11 : decode cX12_check 11 = .ok (.ifCond .eq 7, 3) := by decide +kernel
theorem dX12_check_14 : decode cX12_check 14 = .ok (.iconst 1, 1) := by decide +kernel
theorem dX12_check_15 : decode cX12_check 15 = .ok (.goto 4, 3) := by decide +kernel
theorem dX12_check_18 : decode cX12_check 18 = .ok (.iconst (-1), 1) := by decide +kernel
theorem dX12_check_19 : decode cX12_check 19 = .ok (.ireturn, 1) := by decide +kernel
