set_option maxRecDepth 20000 in
theorem gX12_work_X12_rowFor : GoodIn wsX12_work (wsV RX12 389 RX12 yX12_rowFor wsX12_rowFor) := goodIn_app (goodIn_r _ [29, 30, 31, 7] rfl (by decide +kernel)) ggX12_work_X12_rowFor
set_option maxRecDepth 20000 in
theorem ggX12_work_X12_exchange : GoodIn wsX12_work wsX12_exchange := goodIn_s _ [(57, 1), (1, 1), (3, 6), (58, 4), (13, 1), (16, 1), (14, 1), (17, 4), (62, 4), (33, 9), (66, 9), (50, 4), (46, 4), (75, 24), (15, 1), (99, 66)] rfl (by decide +kernel)
set_option maxRecDepth 20000 in
theorem gX12_work_X12_exchange : GoodIn wsX12_work (wsV RX12 393 RX12 yX12_exchange wsX12_exchange) := goodIn_app (goodIn_r _ [54, 55, 56, 7] rfl (by decide +kernel)) ggX12_work_X12_exchange
theorem dX12_work_0 : decode cX12_work 0 = .ok (.iconst 0, 1) := by decide +kernel
theorem dX12_work_1 : decode cX12_work 1 = .ok (.istore_n 3, 1) := by decide +kernel
theorem dX12_work_2 : decode cX12_work 2 = .ok (.iload_n 3, 1) := by decide +kernel
theorem dX12_work_3 : decode cX12_work 3 = .ok (.iload_n 1, 1) := by decide +kernel
theorem dX12_work_4 : decode cX12_work 4 = .ok (.if_icmp .ge 30, 3) := by decide +kernel
theorem dX12_work_7 : decode cX12_work 7 = .ok (.aload_n 0, 1) := by decide +kernel
theorem dX12_work_8 : decode cX12_work 8 = .ok (.aload_n 0, 1) := by decide +kernel
theorem dX12_work_9 : decode cX12_work 9 = .ok (.iload_n 3, 1) := by decide +kernel
theorem dX12_work_10 : decode cX12_work 10 = .ok (.iload_n 2, 1) := by decide +kernel
theorem dX12_work_11 : decode cX12_work 11 = .ok (.invokevirtual 381, 3) := by decide +kernel
theorem dX12_work_14 : decode cX12_work 14 = .ok (.lconst 1, 1) := by decide +kernel
theorem dX12_work_15 : decode cX12_work 15 = .ok (.invokevirtual 65, 3) := by decide +kernel
theorem dX12_work_18 : decode cX12_work 18 = .ok (.aload_n 0, 1) := by decide +kernel
theorem dX12_work_19 : decode cX12_work 19 = .ok (.getfield 214, 3) := by decide +kernel
theorem dX12_work_22 : decode cX12_work 22 = .ok (.iload_n 3, 1) := by decide +kernel
theorem dX12_work_23 : decode cX12_work 23 = .ok (.bipush 100, 2) := by decide +kernel
theorem dX12_work_25 : decode cX12_work 25 = .ok (.iload_n 3, 1) := by decide +kernel
theorem dX12_work_26 : decode cX12_work 26 = .ok (.iadd, 1) := by decide +kernel
theorem dX12_work_27 : decode cX12_work 27 = .ok (.iastore, 1) := by decide +kernel
theorem dX12_work_28 : decode cX12_work 28 = .ok (.iinc 3 1, 3) := by decide +kernel
theorem dX12_work_31 : decode cX12_work 31 = .ok (.goto (-29), 3) := by decide +kernel
theorem dX12_work_34 : decode cX12_work 34 = .ok (.iconst 0, 1) := by decide +kernel
theorem dX12_work_35 : decode cX12_work 35 = .ok (.istore_n 3, 1) := by decide +kernel
theorem dX12_work_36 : decode cX12_work 36 = .ok (.iload_n 3, 1) := by decide +kernel
theorem dX12_work_37 : decode cX12_work 37 = .ok (.iload_n 2, 1) := by decide +kernel
theorem dX12_work_38 : decode cX12_work 38 = .ok (.if_icmp .ge 29, 3) := by decide +kernel
theorem dX12_work_41 : decode cX12_work 41 = .ok (.aload_n 0, 1) := by decide +kernel
theorem dX12_work_42 : decode cX12_work 42 = .ok (.aload_n 0, 1) := by decide +kernel
theorem dX12_work_43 : decode cX12_work 43 = .ok (.iload_n 1, 1) := by decide +kernel
theorem dX12_work_44 : decode cX12_work 44 = .ok (.iload_n 3, 1) := by decide +kernel
theorem dX12_work_45 : decode cX12_work 45 = .ok (.invokevirtual 381, 3) := by decide +kernel
theorem dX12_work_48 : decode cX12_work 48 = .ok (.ldc2_w 384, 3) := by decide +kernel
theorem dX12_work_51 : decode cX12_work 51 = .ok (.invokevirtual 65, 3) := by decide +kernel
theorem dX12_work_54 : decode cX12_work 54 = .ok (.aload_n 0, 1) := by decide +kernel
theorem dX12_work_55 : decode cX12_work 55 = .ok (.getfield 217, 3) := by decide +kernel
theorem dX12_work_58 : decode cX12_work 58 = .ok (.iload_n 3, 1) := by decide +kernel
theorem dX12_work_59 : decode cX12_work 59 = .ok (.iload_n 3, 1) := by decide +kernel
theorem dX12_work_60 : decode cX12_work 60 = .ok (.iastore, 1) := by decide +kernel
theorem dX12_work_61 : decode cX12_work 61 = .ok (.iinc 3 1, 3) := by decide +kernel
theorem dX12_work_64 : decode cX12_work 64 = .ok (.goto (-28), 3) := by decide +kernel
theorem dX12_work_67 : decode cX12_work 67 = .ok (.aload_n 0, 1) := by decide +kernel
theorem dX12_work_68 : decode cX12_work 68 = .ok (.aload_n 0, 1) := by decide +kernel
theorem dX12_work_69 : decode cX12_work 69 = .ok (.iload_n 1, 1) := by decide +kernel
theorem dX12_work_70 : decode cX12_work 70 = .ok (.iload_n 2, 1) := by decide +kernel
theorem dX12_work_71 : decode cX12_work 71 = .ok (.invokevirtual 381, 3) := by decide +kernel
theorem dX12_work_74 : decode cX12_work 74 = .ok (.lconst 0, 1) := by decide +kernel
theorem dX12_work_75 : decode cX12_work 75 = .ok (.invokevirtual 65, 3) := by decide +kernel
theorem dX12_work_78 : decode cX12_work 78 = .ok (.aload_n 0, 1) := by decide +kernel
theorem dX12_work_79 : decode cX12_work 79 = .ok (.sipush 4225, 3) := by decide +kernel
theorem dX12_work_82 : decode cX12_work 82 = .ok (.lconst 1, 1) := by decide +kernel
theorem dX12_work_83 : decode cX12_work 83 = .ok (.invokevirtual 65, 3) := by decide +kernel
theorem dX12_work_86 : decode cX12_work 86 = .ok (.aload_n 0, 1) := by decide +kernel
theorem dX12_work_87 : decode cX12_work 87 = .ok (.iload_n 1, 1) := by decide +kernel
theorem dX12_work_88 : decode cX12_work 88 = .ok (.iload_n 2, 1) := by decide +kernel
theorem dX12_work_89 : decode cX12_work 89 = .ok (.invokevirtual 386, 3) := by decide +kernel
theorem dX12_work_92 : decode cX12_work 92 = .ok (.istore_n 3, 1) := by decide +kernel
theorem dX12_work_93 : decode cX12_work 93 = .ok (.iload_n 3, 1) := by decide +kernel
theorem dX12_work_94 : decode cX12_work 94 = .ok (.ifCond .lt 27, 3) := by decide +kernel
theorem dX12_work_97 : decode cX12_work 97 = .ok (.aload_n 0, 1) := by decide +kernel
theorem dX12_work_98 : decode cX12_work 98 = .ok (.aload_n 0, 1) := by decide +kernel
theorem dX12_work_99 : decode cX12_work 99 = .ok (.iload_n 3, 1) := by decide +kernel
theorem dX12_work_100 : decode cX12_work 100 = .ok (.iload_n 1, 1) := by decide +kernel
theorem dX12_work_101 : decode cX12_work 101 = .ok (.iload_n 2, 1) := by decide +kernel
theorem dX12_work_102 : decode cX12_work 102 = .ok (.invokevirtual 389, 3) := by decide +kernel
theorem dX12_work_105 : decode cX12_work 105 = .ok (.iload_n 3, 1) := by decide +kernel
theorem dX12_work_106 : decode cX12_work 106 = .ok (.iload_n 1, 1) := by decide +kernel
theorem dX12_work_107 : decode cX12_work 107 = .ok (.iload_n 2, 1) := by decide +kernel
theorem dX12_work_108 : decode cX12_work 108 = .ok (.invokevirtual 393, 3) := by decide +kernel
theorem dX12_work_111 : decode cX12_work 111 = .ok (.aload_n 0, 1) := by decide +kernel
theorem dX12_work_112 : decode cX12_work 112 = .ok (.iload_n 1, 1) := by decide +kernel
theorem dX12_work_113 : decode cX12_work 113 = .ok (.iload_n 2, 1) := by decide +kernel
theorem dX12_work_114 : decode cX12_work 114 = .ok (.invokevirtual 386, 3) := by decide +kernel
theorem dX12_work_117 : decode cX12_work 117 = .ok (.istore_n 3, 1) := by decide +kernel
theorem dX12_work_118 : decode cX12_work 118 = .ok (.goto (-25), 3) := by decide +kernel
theorem dX12_work_121 : decode cX12_work 121 = .ok (.return_, 1) := by decide +kernel
set_option maxRecDepth 20000 in
theorem ggX12_gaining_X12_cell : GoodIn wsX12_gaining wsX12_cell := goodIn_r _ [6] rfl (by decide +kernel)
set_option maxRecDepth 20000 in
theorem gX12_gaining_X12_cell : GoodIn wsX12_gaining (wsV RX12 381 RX12 yX12_cell wsX12_cell) := goodIn_app (goodIn_r _ [2, 3, 4, 5] rfl (by decide +kernel)) ggX12_gaining_X12_cell
set_option maxRecDepth 20000 in
theorem ggX12_gaining_X12_bigSign : GoodIn wsX12_gaining wsX12_bigSign := goodIn_s _ [(10, 61)] rfl (by decide +kernel)
set_option maxRecDepth 20000 in
theorem gX12_gaining_X12_bigSign : GoodIn wsX12_gaining (wsV RX12 25 RX12 yX12_bigSign wsX12_bigSign) := goodIn_app (goodIn_r _ [7, 8, 9, 5] rfl (by decide +kernel)) ggX12_gaining_X12_bigSign
theorem dX12_gaining_0 : decode cX12_gaining 0 = .ok (.iconst (-1), 1) := by decide +kernel
theorem dX12_gaining_1 : decode cX12_gaining 1 = .ok (.istore_n 3, 1) := by decide +kernel
theorem dX12_gaining_2 : decode cX12_gaining 2 = .ok (.iconst 0, 1) := by decide +kernel
theorem dX12_gaining_3 : decode cX12_gaining 3 = .ok (.istore 4, 2) := by decide +kernel
theorem dX12_gaining_5 : decode cX12_gaining 5 = .ok (.iload 4, 2) := by decide +kernel
theorem dX12_gaining_7 : decode cX12_gaining 7 = .ok (.iload_n 2, 1) := by decide +kernel
theorem dX12_gaining_8 : decode cX12_gaining 8 = .ok (.if_icmp .ge 62, 3) := by decide +kernel
theorem dX12_gaining_11 : decode cX12_gaining 11 = .ok (.aload_n 0, 1) := by decide +kernel
theorem dX12_gaining_12 : decode cX12_gaining 12 = .ok (.aload_n 0, 1) := by decide +kernel
theorem dX12_gaining_13 : decode cX12_gaining 13 = .ok (.iload_n 1, 1) := by decide +kernel
theorem dX12_gaining_14 : decode cX12_gaining 14 = .ok (.iload 4, 2) := by decide +kernel
theorem dX12_gaining_16 : decode cX12_gaining 16 = .ok (.invokevirtual 381, 3) := by decide +kernel
theorem dX12_gaining_19 : decode cX12_gaining 19 = .ok (.invokevirtual 25, 3) := by decide +kernel
theorem dX12_gaining_22 : decode cX12_gaining 22 = .ok (.ifCond .ge 7, 3) := by decide +kernel
theorem dX12_gaining_25 : decode cX12_gaining 25 = .ok (.iconst 1, 1) := by decide +kernel
theorem dX12_gaining_26 : decode cX12_gaining 26 = .ok (.goto 4, 3) := by decide +kernel
theorem dX12_gaining_29 : decode cX12_gaining 29 = .ok (.iconst 0, 1) := by decide +kernel
theorem dX12_gaining_30 : decode cX12_gaining 30 = .ok (.istore 5, 2) := by decide +kernel
theorem dX12_gaining_32 : decode cX12_gaining 32 = .ok (.iload 5, 2) := by decide +kernel
theorem dX12_gaining_34 : decode cX12_gaining 34 = .ok (.ifCond .eq 28, 3) := by decide +kernel
theorem dX12_gaining_37 : decode cX12_gaining 37 = .ok (.iload_n 3, 1) := by decide +kernel
theorem dX12_gaining_38 : decode cX12_gaining 38 = .ok (.ifCond .lt 19, 3) := by decide +kernel
theorem dX12_gaining_41 : decode cX12_gaining 41 = .ok (.aload_n 0, 1) := by decide +kernel
theorem dX12_gaining_42 : decode cX12_gaining 42 = .ok (.getfield 217, 3) := by decide +kernel
theorem dX12_gaining_45 : decode cX12_gaining 45 = .ok (.iload 4, 2) := by decide +kernel
theorem dX12_gaining_47 : decode cX12_gaining 47 = .ok (.iaload, 1) := by decide +kernel
theorem dX12_gaining_48 : decode cX12_gaining 48 = .ok (.aload_n 0, 1) := by decide +kernel
theorem dX12_gaining_49 : decode cX12_gaining 49 = .ok (.getfield 217, 3) := by decide +kernel
theorem dX12_gaining_52 : decode cX12_gaining 52 = .ok (.iload_n 3, 1) := by decide +kernel
theorem dX12_gaining_53 : decode cX12_gaining 53 = .ok (.iaload, 1) := by decide +kernel
theorem dX12_gaining_54 : decode cX12_gaining 54 = .ok (.if_icmp .ge 8, 3) := by decide +kernel
theorem dX12_gaining_57 : decode cX12_gaining 57 = .ok (.iload 4, 2) := by decide +kernel
theorem dX12_gaining_59 : decode cX12_gaining 59 = .ok (.goto 4, 3) := by decide +kernel
theorem dX12_gaining_62 : decode cX12_gaining 62 = .ok (.iload_n 3, 1) := by decide +kernel
theorem dX12_gaining_63 : decode cX12_gaining 63 = .ok (.istore_n 3, 1) := by decide +kernel
theorem dX12_gaining_64 : decode cX12_gaining 64 = .ok (.iinc 4 1, 3) := by decide +kernel
theorem dX12_gaining_67 : decode cX12_gaining 67 = .ok (.goto (-62), 3) := by decide +kernel
theorem dX12_gaining_70 : decode cX12_gaining 70 = .ok (.iload_n 3, 1) := by decide +kernel
theorem dX12_gaining_71 : decode cX12_gaining 71 = .ok (.ireturn, 1) := by decide +kernel
set_option maxRecDepth 20000 in
theorem ggX12_rowFor_X12_cell : GoodIn wsX12_rowFor wsX12_cell := goodIn_r _ [6] rfl (by decide +kernel)
set_option maxRecDepth 20000 in
theorem gX12_rowFor_X12_cell : GoodIn wsX12_rowFor (wsV RX12 381 RX12 yX12_cell wsX12_cell) := goodIn_app (goodIn_r _ [2, 3, 4, 5] rfl (by decide +kernel)) ggX12_rowFor_X12_cell
set_option maxRecDepth 20000 in
theorem ggX12_rowFor_X12_bigSign : GoodIn wsX12_rowFor wsX12_bigSign := goodIn_s _ [(10, 3), (39, 58)] rfl (by decide +kernel)
set_option maxRecDepth 20000 in
theorem gX12_rowFor_X12_bigSign : GoodIn wsX12_rowFor (wsV RX12 25 RX12 yX12_bigSign wsX12_bigSign) := goodIn_app (goodIn_r _ [7, 8, 9, 5] rfl (by decide +kernel)) ggX12_rowFor_X12_bigSign
set_option maxRecDepth 20000 in
theorem ggX12_rowFor_X12_bigProduct : GoodIn wsX12_rowFor wsX12_bigProduct := goodIn_s _ [(16, 1), (11, 1), (17, 2), (12, 1), (19, 2), (5, 1), (21, 6), (39, 58)] rfl (by decide +kernel)
set_option maxRecDepth 20000 in
theorem gX12_rowFor_X12_bigProduct : GoodIn wsX12_rowFor (wsV RX12 78 RX12 yX12_bigProduct wsX12_bigProduct) := goodIn_app (goodIn_r _ [13, 14, 15, 5] rfl (by decide +kernel)) ggX12_rowFor_X12_bigProduct
set_option maxRecDepth 20000 in
theorem ggX12_rowFor_X12_bigCompare : GoodIn wsX12_rowFor wsX12_bigCompare := goodIn_s _ [(30, 1), (7, 3), (5, 1), (10, 3), (31, 8), (17, 1), (19, 4), (39, 58)] rfl (by decide +kernel)
set_option maxRecDepth 20000 in
theorem gX12_rowFor_X12_bigCompare : GoodIn wsX12_rowFor (wsV RX12 84 RX12 yX12_bigCompare wsX12_bigCompare) := goodIn_app (goodIn_r _ [27, 28, 29, 5] rfl (by decide +kernel)) ggX12_rowFor_X12_bigCompare
theorem dX12_rowFor_0 : decode cX12_rowFor 0 = .ok (.iconst (-1), 1) := by decide +kernel
theorem dX12_rowFor_1 : decode cX12_rowFor 1 = .ok (.istore 4, 2) := by decide +kernel
theorem dX12_rowFor_3 : decode cX12_rowFor 3 = .ok (.iconst 0, 1) := by decide +kernel
theorem dX12_rowFor_4 : decode cX12_rowFor 4 = .ok (.istore 5, 2) := by decide +kernel
theorem dX12_rowFor_6 : decode cX12_rowFor 6 = .ok (.iload 5, 2) := by decide +kernel
theorem dX12_rowFor_8 : decode cX12_rowFor 8 = .ok (.iload_n 2, 1) := by decide +kernel
theorem dX12_rowFor_9 : decode cX12_rowFor 9 = .ok (.if_icmp .ge 123, 3) := by decide +kernel
theorem dX12_rowFor_12 : decode cX12_rowFor 12 = .ok (.aload_n 0, 1) := by decide +kernel
theorem dX12_rowFor_13 : decode cX12_rowFor 13 = .ok (.iload 5, 2) := by decide +kernel
theorem dX12_rowFor_15 : decode cX12_rowFor 15 = .ok (.iload_n 1, 1) := by decide +kernel
theorem dX12_rowFor_16 : decode cX12_rowFor 16 = .ok (.invokevirtual 381, 3) := by decide +kernel
theorem dX12_rowFor_19 : decode cX12_rowFor 19 = .ok (.istore 6, 2) := by decide +kernel
theorem dX12_rowFor_21 : decode cX12_rowFor 21 = .ok (.aload_n 0, 1) := by decide +kernel
theorem dX12_rowFor_22 : decode cX12_rowFor 22 = .ok (.iload 6, 2) := by decide +kernel
theorem dX12_rowFor_24 : decode cX12_rowFor 24 = .ok (.invokevirtual 25, 3) := by decide +kernel
theorem dX12_rowFor_27 : decode cX12_rowFor 27 = .ok (.ifCond .gt 6, 3) := by decide +kernel
theorem dX12_rowFor_30 : decode cX12_rowFor 30 = .ok (.goto 96, 3) := by decide +kernel
theorem dX12_rowFor_33 : decode cX12_rowFor 33 = .ok (.iconst (-1), 1) := by decide +kernel
theorem dX12_rowFor_34 : decode cX12_rowFor 34 = .ok (.istore 7, 2) := by decide +kernel
theorem dX12_rowFor_36 : decode cX12_rowFor 36 = .ok (.iload 4, 2) := by decide +kernel
theorem dX12_rowFor_38 : decode cX12_rowFor 38 = .ok (.ifCond .lt 52, 3) := by decide +kernel
theorem dX12_rowFor_41 : decode cX12_rowFor 41 = .ok (.aload_n 0, 1) := by decide +kernel
theorem dX12_rowFor_42 : decode cX12_rowFor 42 = .ok (.sipush 4243, 3) := by decide +kernel
theorem dX12_rowFor_45 : decode cX12_rowFor 45 = .ok (.aload_n 0, 1) := by decide +kernel
theorem dX12_rowFor_46 : decode cX12_rowFor 46 = .ok (.iload 5, 2) := by decide +kernel
theorem dX12_rowFor_48 : decode cX12_rowFor 48 = .ok (.iload_n 3, 1) := by decide +kernel
theorem dX12_rowFor_49 : decode cX12_rowFor 49 = .ok (.invokevirtual 381, 3) := by decide +kernel
theorem dX12_rowFor_52 : decode cX12_rowFor 52 = .ok (.aload_n 0, 1) := by decide +kernel
theorem dX12_rowFor_53 : decode cX12_rowFor 53 = .ok (.iload 4, 2) := by decide +kernel
theorem dX12_rowFor_55 : decode cX12_rowFor 55 = .ok (.iload_n 1, 1) := by decide +kernel
theorem dX12_rowFor_56 : decode cX12_rowFor 56 = .ok (.invokevirtual 381, 3) := by decide +kernel
theorem dX12_rowFor_59 : decode cX12_rowFor 59 = .ok (.invokevirtual 78, 3) := by decide +kernel
theorem dX12_rowFor_62 : decode cX12_rowFor 62 = .ok (.aload_n 0, 1) := by decide +kernel
theorem dX12_rowFor_63 : decode cX12_rowFor 63 = .ok (.sipush 4244, 3) := by decide +kernel
theorem dX12_rowFor_66 : decode cX12_rowFor 66 = .ok (.aload_n 0, 1) := by decide +kernel
theorem dX12_rowFor_67 : decode cX12_rowFor 67 = .ok (.iload 4, 2) := by decide +kernel
theorem dX12_rowFor_69 : decode cX12_rowFor 69 = .ok (.iload_n 3, 1) := by decide +kernel
theorem dX12_rowFor_70 : decode cX12_rowFor 70 = .ok (.invokevirtual 381, 3) := by decide +kernel
theorem dX12_rowFor_73 : decode cX12_rowFor 73 = .ok (.iload 6, 2) := by decide +kernel
theorem dX12_rowFor_75 : decode cX12_rowFor 75 = .ok (.invokevirtual 78, 3) := by decide +kernel
theorem dX12_rowFor_78 : decode cX12_rowFor 78 = .ok (.aload_n 0, 1) := by decide +kernel
theorem dX12_rowFor_79 : decode cX12_rowFor 79 = .ok (.sipush 4243, 3) := by decide +kernel
theorem dX12_rowFor_82 : decode cX12_rowFor 82 = .ok (.sipush 4244, 3) := by decide +kernel
theorem dX12_rowFor_85 : decode cX12_rowFor 85 = .ok (.invokevirtual 84, 3) := by decide +kernel
theorem dX12_rowFor_88 : decode cX12_rowFor 88 = .ok (.istore 7, 2) := by decide +kernel
theorem dX12_rowFor_90 : decode cX12_rowFor 90 = .ok (.iload 7, 2) := by decide +kernel
theorem dX12_rowFor_92 : decode cX12_rowFor 92 = .ok (.ifCond .lt 25, 3) := by decide +kernel
theorem dX12_rowFor_95 : decode cX12_rowFor 95 = .ok (.iload 7, 2) := by decide +kernel
theorem dX12_rowFor_97 : decode cX12_rowFor 97 = .ok (.ifCond .ne 25, 3) := by decide +kernel
theorem dX12_rowFor_100 : decode cX12_rowFor 100 = .ok (.aload_n 0, 1) := by decide +kernel
theorem dX12_rowFor_101 : decode cX12_rowFor 101 = .ok (.getfield 214, 3) := by decide +kernel
theorem dX12_rowFor_104 : decode cX12_rowFor 104 = .ok (.iload 5, 2) := by decide +kernel
theorem dX12_rowFor_106 : decode cX12_rowFor 106 = .ok (.iaload, 1) := by decide +kernel
theorem dX12_rowFor_107 : decode cX12_rowFor 107 = .ok (.aload_n 0, 1) := by decide +kernel
theorem dX12_rowFor_108 : decode cX12_rowFor 108 = .ok (.getfield 214, 3) := by decide +kernel
theorem dX12_rowFor_111 : decode cX12_rowFor 111 = .ok (.iload 4, 2) := by decide +kernel
theorem dX12_rowFor_113 : decode cX12_rowFor 113 = .ok (.iaload, 1) := by decide +kernel
theorem dX12_rowFor_114 : decode cX12_rowFor 114 = .ok (.if_icmp .ge 8, 3) := by decide +kernel
theorem dX12_rowFor_117 : decode cX12_rowFor 117 = .ok (.iload 5, 2) := by decide +kernel
theorem dX12_rowFor_119 : decode cX12_rowFor 119 = .ok (.goto 5, 3) := by decide +kernel
theorem dX12_rowFor_122 : decode cX12_rowFor 122 = .ok (.iload 4, 2) := by decide +kernel
theorem dX12_rowFor_124 : decode cX12_rowFor 124 = .ok (.istore 4, 2) := by decide +kernel
theorem dX12_rowFor_126 : decode cX12_rowFor 126 = .ok (.iinc 5 1, 3) := by decide +kernel
theorem dX12_rowFor_129 : decode cX12_rowFor 129 = .ok (.goto (-123), 3) := by decide +kernel
theorem dX12_rowFor_132 : decode cX12_rowFor 132 = .ok (.iload 4, 2) := by decide +kernel
theorem dX12_rowFor_134 : decode cX12_rowFor 134 = .ok (.ireturn, 1) := by decide +kernel
set_option maxRecDepth 20000 in
theorem ggX12_exchange_X12_cell : GoodIn wsX12_exchange wsX12_cell := goodIn_r _ [7] rfl (by decide +kernel)
set_option maxRecDepth 20000 in
theorem gX12_exchange_X12_cell : GoodIn wsX12_exchange (wsV RX12 381 RX12 yX12_cell wsX12_cell) := goodIn_app (goodIn_r _ [3, 4, 5, 6] rfl (by decide +kernel)) ggX12_exchange_X12_cell
set_option maxRecDepth 20000 in
theorem ggX12_exchange_X12_bigCopy : GoodIn wsX12_exchange wsX12_bigCopy := goodIn_s _ [(11, 6), (6, 1), (17, 2), (82, 58)] rfl (by decide +kernel)
set_option maxRecDepth 20000 in
theorem gX12_exchange_X12_bigCopy : GoodIn wsX12_exchange (wsV RX12 58 RX12 yX12_bigCopy wsX12_bigCopy) := goodIn_app (goodIn_r _ [8, 9, 10, 6] rfl (by decide +kernel)) ggX12_exchange_X12_bigCopy
set_option maxRecDepth 20000 in
theorem ggX12_exchange_X12_exchangeCell : GoodIn wsX12_exchange wsX12_exchangeCell := goodIn_s _ [(22, 4), (6, 1), (26, 1), (13, 2), (27, 1), (12, 1), (15, 4), (28, 33), (8, 4), (61, 17), (82, 58)] rfl (by decide +kernel)
set_option maxRecDepth 20000 in
theorem gX12_exchange_X12_exchangeCell : GoodIn wsX12_exchange (wsV RX12 397 RX12 yX12_exchangeCell wsX12_exchangeCell) := goodIn_app (goodIn_r _ [19, 20, 21, 6] rfl (by decide +kernel)) ggX12_exchange_X12_exchangeCell
set_option maxRecDepth 20000 in
theorem ggX12_exchange_X12_turnSign : GoodIn wsX12_exchange wsX12_turnSign := goodIn_s _ [(81, 1), (12, 1), (74, 3), (6, 1), (77, 1), (13, 1), (82, 58)] rfl (by decide +kernel)
set_option maxRecDepth 20000 in
theorem gX12_exchange_X12_turnSign : GoodIn wsX12_exchange (wsV RX12 400 RX12 yX12_turnSign wsX12_turnSign) := goodIn_app (goodIn_r _ [78, 79, 80, 6] rfl (by decide +kernel)) ggX12_exchange_X12_turnSign
theorem dX12_exchange_0 : decode cX12_exchange 0 = .ok (.aload_n 0, 1) := by decide +kernel
theorem dX12_exchange_1 : decode cX12_exchange 1 = .ok (.sipush 4226, 3) := by decide +kernel
theorem dX12_exchange_4 : decode cX12_exchange 4 = .ok (.aload_n 0, 1) := by decide +kernel
theorem dX12_exchange_5 : decode cX12_exchange 5 = .ok (.iload_n 1, 1) := by decide +kernel
theorem dX12_exchange_6 : decode cX12_exchange 6 = .ok (.iload_n 2, 1) := by decide +kernel
theorem dX12_exchange_7 : decode cX12_exchange 7 = .ok (.invokevirtual 381, 3) := by decide +kernel
theorem dX12_exchange_10 : decode cX12_exchange 10 = .ok (.invokevirtual 58, 3) := by decide +kernel
theorem dX12_exchange_13 : decode cX12_exchange 13 = .ok (.iconst 0, 1) := by decide +kernel
theorem dX12_exchange_14 : decode cX12_exchange 14 = .ok (.istore 5, 2) := by decide +kernel
theorem dX12_exchange_16 : decode cX12_exchange 16 = .ok (.iload 5, 2) := by decide +kernel
theorem dX12_exchange_18 : decode cX12_exchange 18 = .ok (.iload_n 3, 1) := by decide +kernel
theorem dX12_exchange_19 : decode cX12_exchange 19 = .ok (.if_icmp .gt 74, 3) := by decide +kernel
theorem dX12_exchange_22 : decode cX12_exchange 22 = .ok (.iload 5, 2) := by decide +kernel
theorem dX12_exchange_24 : decode cX12_exchange 24 = .ok (.iload_n 1, 1) := by decide +kernel
theorem dX12_exchange_25 : decode cX12_exchange 25 = .ok (.if_icmp .eq 62, 3) := by decide +kernel
theorem dX12_exchange_28 : decode cX12_exchange 28 = .ok (.iconst 0, 1) := by decide +kernel
theorem dX12_exchange_29 : decode cX12_exchange 29 = .ok (.istore 6, 2) := by decide +kernel
theorem dX12_exchange_31 : decode cX12_exchange 31 = .ok (.iload 6, 2) := by decide +kernel
theorem dX12_exchange_33 : decode cX12_exchange 33 = .ok (.iload 4, 2) := by decide +kernel
theorem dX12_exchange_35 : decode cX12_exchange 35 = .ok (.if_icmp .gt 41, 3) := by decide +kernel
theorem dX12_exchange_38 : decode cX12_exchange 38 = .ok (.iload 6, 2) := by decide +kernel
theorem dX12_exchange_40 : decode cX12_exchange 40 = .ok (.iload_n 2, 1) := by decide +kernel
theorem dX12_exchange_41 : decode cX12_exchange 41 = .ok (.if_icmp .eq 29, 3) := by decide +kernel
theorem dX12_exchange_44 : decode cX12_exchange 44 = .ok (.aload_n 0, 1) := by decide +kernel
theorem dX12_exchange_45 : decode cX12_exchange 45 = .ok (.aload_n 0, 1) := by decide +kernel
theorem dX12_exchange_46 : decode cX12_exchange 46 = .ok (.iload 5, 2) := by decide +kernel
theorem dX12_exchange_48 : decode cX12_exchange 48 = .ok (.iload 6, 2) := by decide +kernel
theorem dX12_exchange_50 : decode cX12_exchange 50 = .ok (.invokevirtual 381, 3) := by decide +kernel
theorem dX12_exchange_53 : decode cX12_exchange 53 = .ok (.aload_n 0, 1) := by decide +kernel
theorem dX12_exchange_54 : decode cX12_exchange 54 = .ok (.iload 5, 2) := by decide +kernel
theorem dX12_exchange_56 : decode cX12_exchange 56 = .ok (.iload_n 2, 1) := by decide +kernel
theorem dX12_exchange_57 : decode cX12_exchange 57 = .ok (.invokevirtual 381, 3) := by decide +kernel
theorem dX12_exchange_60 : decode cX12_exchange 60 = .ok (.aload_n 0, 1) := by decide +kernel
theorem dX12_exchange_61 : decode cX12_exchange 61 = .ok (.iload_n 1, 1) := by decide +kernel
theorem dX12_exchange_62 : decode cX12_exchange 62 = .ok (.iload 6, 2) := by decide +kernel
theorem dX12_exchange_64 : decode cX12_exchange 64 = .ok (.invokevirtual 381, 3) := by decide +kernel
theorem dX12_exchange_67 : decode cX12_exchange 67 = .ok (.invokevirtual 397, 3) := by decide +kernel
theorem dX12_exchange_70 : decode cX12_exchange 70 = .ok (.iinc 6 1, 3) := by decide +kernel
theorem dX12_exchange_73 : decode cX12_exchange 73 = .ok (.goto (-42), 3) := by decide +kernel
theorem dX12_exchange_76 : decode cX12_exchange 76 = .ok (.aload_n 0, 1) := by decide +kernel
theorem dX12_exchange_77 : decode cX12_exchange 77 = .ok (.aload_n 0, 1) := by decide +kernel
theorem dX12_exchange_78 : decode cX12_exchange 78 = .ok (.iload 5, 2) := by decide +kernel
theorem dX12_exchange_80 : decode cX12_exchange 80 = .ok (.iload_n 2, 1) := by decide +kernel
theorem dX12_exchange_81 : decode cX12_exchange 81 = .ok (.invokevirtual 381, 3) := by decide +kernel
theorem dX12_exchange_84 : decode cX12_exchange 84 = .ok (.invokevirtual 400, 3) := by decide +kernel
theorem dX12_exchange_87 : decode cX12_exchange 87 = .ok (.iinc 5 1, 3) := by decide +kernel
theorem dX12_exchange_90 : decode cX12_exchange 90 = .ok (.goto (-74), 3) := by decide +kernel
theorem dX12_exchange_93 : decode cX12_exchange 93 = .ok (.aload_n 0, 1) := by decide +kernel
theorem dX12_exchange_94 : decode cX12_exchange 94 = .ok (.aload_n 0, 1) := by decide +kernel
theorem dX12_exchange_95 : decode cX12_exchange 95 = .ok (.iload_n 1, 1) := by decide +kernel
theorem dX12_exchange_96 : decode cX12_exchange 96 = .ok (.iload_n 2, 1) := by decide +kernel
theorem dX12_exchange_97 : decode cX12_exchange 97 = .ok (.invokevirtual 381, 3) := by decide +kernel
theorem dX12_exchange_100 : decode cX12_exchange 100 = .ok (.sipush 4225, 3) := by decide +kernel
theorem dX12_exchange_103 : decode cX12_exchange 103 = .ok (.invokevirtual 58, 3) := by decide +kernel
theorem dX12_exchange_106 : decode cX12_exchange 106 = .ok (.aload_n 0, 1) := by decide +kernel
theorem dX12_exchange_107 : decode cX12_exchange 107 = .ok (.sipush 4225, 3) := by decide +kernel
theorem dX12_exchange_110 : decode cX12_exchange 110 = .ok (.sipush 4226, 3) := by decide +kernel
theorem dX12_exchange_113 : decode cX12_exchange 113 = .ok (.invokevirtual 58, 3) := by decide +kernel
theorem dX12_exchange_116 : decode cX12_exchange 116 = .ok (.aload_n 0, 1) := by decide +kernel
theorem dX12_exchange_117 : decode cX12_exchange 117 = .ok (.getfield 214, 3) := by decide +kernel
theorem dX12_exchange_120 : decode cX12_exchange 120 = .ok (.iload_n 1, 1) := by decide +kernel
theorem dX12_exchange_121 : decode cX12_exchange 121 = .ok (.iaload, 1) := by decide +kernel
theorem dX12_exchange_122 : decode cX12_exchange 122 = .ok (.istore 5, 2) := by decide +kernel
theorem dX12_exchange_124 : decode cX12_exchange 124 = .ok (.aload_n 0, 1) := by decide +kernel
theorem dX12_exchange_125 : decode cX12_exchange 125 = .ok (.getfield 214, 3) := by decide +kernel
theorem dX12_exchange_128 : decode cX12_exchange 128 = .ok (.iload_n 1, 1) := by decide +kernel
theorem dX12_exchange_129 : decode cX12_exchange 129 = .ok (.aload_n 0, 1) := by decide +kernel
theorem dX12_exchange_130 : decode cX12_exchange 130 = .ok (.getfield 217, 3) := by decide +kernel
theorem dX12_exchange_133 : decode cX12_exchange 133 = .ok (.iload_n 2, 1) := by decide +kernel
theorem dX12_exchange_134 : decode cX12_exchange 134 = .ok (.iaload, 1) := by decide +kernel
theorem dX12_exchange_135 : decode cX12_exchange 135 = .ok (.iastore, 1) := by decide +kernel
theorem dX12_exchange_136 : decode cX12_exchange 136 = .ok (.aload_n 0, 1) := by decide +kernel
theorem dX12_exchange_137 : decode cX12_exchange 137 = .ok (.getfield 217, 3) := by decide +kernel
theorem dX12_exchange_140 : decode cX12_exchange 140 = .ok (.iload_n 2, 1) := by decide +kernel
theorem dX12_exchange_141 : decode cX12_exchange 141 = .ok (.iload 5, 2) := by decide +kernel
theorem dX12_exchange_143 : decode cX12_exchange 143 = .ok (.iastore, 1) := by decide +kernel
theorem dX12_exchange_144 : decode cX12_exchange 144 = .ok (.return_, 1) := by decide +kernel
set_option maxRecDepth 20000 in
theorem ggX12_solve_X12_plansOf : GoodIn wsX12_solve wsX12_plansOf := goodIn_s _ [(10, 3), (157, 58)] rfl (by decide +kernel)
set_option maxRecDepth 20000 in
theorem gX12_solve_X12_plansOf : GoodIn wsX12_solve (wsV RX12 313 RX12 yX12_plansOf wsX12_plansOf) := goodIn_app (goodIn_r _ [6, 7, 8, 9] rfl (by decide +kernel)) ggX12_solve_X12_plansOf
set_option maxRecDepth 20000 in
theorem ggX12_solve_X12_fill : GoodIn wsX12_solve wsX12_fill := goodIn_s _ [(16, 4), (9, 1), (20, 6), (3, 1), (26, 30), (11, 1), (56, 4), (12, 1), (157, 58)] rfl (by decide +kernel)
set_option maxRecDepth 20000 in
theorem gX12_solve_X12_fill : GoodIn wsX12_solve (wsV RX12 403 RX12 yX12_fill wsX12_fill) := goodIn_app (goodIn_r _ [13, 14, 15, 9] rfl (by decide +kernel)) ggX12_solve_X12_fill
set_option maxRecDepth 20000 in
theorem ggX12_solve_X12_work : GoodIn wsX12_solve wsX12_work := goodIn_s _ [(63, 4), (32, 3), (9, 1), (35, 13), (67, 86), (157, 58)] rfl (by decide +kernel)
