set_option maxRecDepth 20000 in
theorem gX12_bigTenth_X12_bigTrim : GoodIn wsX12_bigTenth (wsV RX12 32 RX12 yX12_bigTrim wsX12_bigTrim) := goodIn_app (goodIn_r _ [9, 10, 11, 6] rfl (by decide +kernel)) ggX12_bigTenth_X12_bigTrim
theorem dX12_bigTenth_0 : decode cX12_bigTenth 0 = .ok (.iconst 0, 1) := by decide +kernel
theorem dX12_bigTenth_1 : decode cX12_bigTenth 1 = .ok (.istore_n 2, 1) := by decide +kernel
theorem dX12_bigTenth_2 : decode cX12_bigTenth 2 = .ok (.aload_n 0, 1) := by decide +kernel
theorem dX12_bigTenth_3 : decode cX12_bigTenth 3 = .ok (.getfield 18, 3) := by decide +kernel
theorem dX12_bigTenth_6 : decode cX12_bigTenth 6 = .ok (.iload_n 1, 1) := by decide +kernel
theorem dX12_bigTenth_7 : decode cX12_bigTenth 7 = .ok (.iaload, 1) := by decide +kernel
theorem dX12_bigTenth_8 : decode cX12_bigTenth 8 = .ok (.iconst 1, 1) := by decide +kernel
theorem dX12_bigTenth_9 : decode cX12_bigTenth 9 = .ok (.isub, 1) := by decide +kernel
theorem dX12_bigTenth_10 : decode cX12_bigTenth 10 = .ok (.istore_n 3, 1) := by decide +kernel
theorem dX12_bigTenth_11 : decode cX12_bigTenth 11 = .ok (.iload_n 3, 1) := by decide +kernel
theorem dX12_bigTenth_12 : decode cX12_bigTenth 12 = .ok (.ifCond .lt 49, 3) := by decide +kernel
theorem dX12_bigTenth_15 : decode cX12_bigTenth 15 = .ok (.iload_n 2, 1) := by decide +kernel
theorem dX12_bigTenth_16 : decode cX12_bigTenth 16 = .ok (.ldc 31, 2) := by decide +kernel
theorem dX12_bigTenth_18 : decode cX12_bigTenth 18 = .ok (.imul, 1) := by decide +kernel
theorem dX12_bigTenth_19 : decode cX12_bigTenth 19 = .ok (.aload_n 0, 1) := by decide +kernel
theorem dX12_bigTenth_20 : decode cX12_bigTenth 20 = .ok (.getfield 8, 3) := by decide +kernel
theorem dX12_bigTenth_23 : decode cX12_bigTenth 23 = .ok (.iload_n 1, 1) := by decide +kernel
theorem dX12_bigTenth_24 : decode cX12_bigTenth 24 = .ok (.invokestatic 12, 3) := by decide +kernel
theorem dX12_bigTenth_27 : decode cX12_bigTenth 27 = .ok (.iload_n 3, 1) := by decide +kernel
theorem dX12_bigTenth_28 : decode cX12_bigTenth 28 = .ok (.iadd, 1) := by decide +kernel
theorem dX12_bigTenth_29 : decode cX12_bigTenth 29 = .ok (.iaload, 1) := by decide +kernel
theorem dX12_bigTenth_30 : decode cX12_bigTenth 30 = .ok (.iadd, 1) := by decide +kernel
theorem dX12_bigTenth_31 : decode cX12_bigTenth 31 = .ok (.istore 4, 2) := by decide +kernel
theorem dX12_bigTenth_33 : decode cX12_bigTenth 33 = .ok (.aload_n 0, 1) := by decide +kernel
theorem dX12_bigTenth_34 : decode cX12_bigTenth 34 = .ok (.getfield 8, 3) := by decide +kernel
theorem dX12_bigTenth_37 : decode cX12_bigTenth 37 = .ok (.iload_n 1, 1) := by decide +kernel
theorem dX12_bigTenth_38 : decode cX12_bigTenth 38 = .ok (.invokestatic 12, 3) := by decide +kernel
theorem dX12_bigTenth_41 : decode cX12_bigTenth 41 = .ok (.iload_n 3, 1) := by decide +kernel
theorem dX12_bigTenth_42 : decode cX12_bigTenth 42 = .ok (.iadd, 1) := by decide +kernel
theorem dX12_bigTenth_43 : decode cX12_bigTenth 43 = .ok (.iload 4, 2) := by decide +kernel
theorem dX12_bigTenth_45 : decode cX12_bigTenth 45 = .ok (.bipush 10, 2) := by decide +kernel
theorem dX12_bigTenth_47 : decode cX12_bigTenth 47 = .ok (.idiv, 1) := by decide +kernel
theorem dX12_bigTenth_48 : decode cX12_bigTenth 48 = .ok (.iastore, 1) := by decide +kernel
theorem dX12_bigTenth_49 : decode cX12_bigTenth 49 = .ok (.iload 4, 2) := by decide +kernel
theorem dX12_bigTenth_51 : decode cX12_bigTenth 51 = .ok (.bipush 10, 2) := by decide +kernel
theorem dX12_bigTenth_53 : decode cX12_bigTenth 53 = .ok (.irem, 1) := by decide +kernel
theorem dX12_bigTenth_54 : decode cX12_bigTenth 54 = .ok (.istore_n 2, 1) := by decide +kernel
theorem dX12_bigTenth_55 : decode cX12_bigTenth 55 = .ok (.iinc 3 (-1), 3) := by decide +kernel
theorem dX12_bigTenth_58 : decode cX12_bigTenth 58 = .ok (.goto (-47), 3) := by decide +kernel
theorem dX12_bigTenth_61 : decode cX12_bigTenth 61 = .ok (.aload_n 0, 1) := by decide +kernel
theorem dX12_bigTenth_62 : decode cX12_bigTenth 62 = .ok (.iload_n 1, 1) := by decide +kernel
theorem dX12_bigTenth_63 : decode cX12_bigTenth 63 = .ok (.invokevirtual 32, 3) := by decide +kernel
theorem dX12_bigTenth_66 : decode cX12_bigTenth 66 = .ok (.iload_n 2, 1) := by decide +kernel
theorem dX12_bigTenth_67 : decode cX12_bigTenth 67 = .ok (.ireturn, 1) := by decide +kernel
set_option maxRecDepth 20000 in
theorem ggX12_turnSign_X12_bigIsZero : GoodIn wsX12_turnSign wsX12_bigIsZero := goodIn_s _ [(6, 60)] rfl (by decide +kernel)
set_option maxRecDepth 20000 in
theorem gX12_turnSign_X12_bigIsZero : GoodIn wsX12_turnSign (wsV RX12 54 RX12 yX12_bigIsZero wsX12_bigIsZero) := goodIn_app (goodIn_r _ [2, 3, 4, 5] rfl (by decide +kernel)) ggX12_turnSign_X12_bigIsZero
theorem dX12_turnSign_0 : decode cX12_turnSign 0 = .ok (.aload_n 0, 1) := by decide +kernel
theorem dX12_turnSign_1 : decode cX12_turnSign 1 = .ok (.getfield 4, 3) := by decide +kernel
theorem dX12_turnSign_4 : decode cX12_turnSign 4 = .ok (.iload_n 1, 1) := by decide +kernel
theorem dX12_turnSign_5 : decode cX12_turnSign 5 = .ok (.aload_n 0, 1) := by decide +kernel
theorem dX12_turnSign_6 : decode cX12_turnSign 6 = .ok (.getfield 4, 3) := by decide +kernel
theorem dX12_turnSign_9 : decode cX12_turnSign 9 = .ok (.iload_n 1, 1) := by decide +kernel
theorem dX12_turnSign_10 : decode cX12_turnSign 10 = .ok (.baload, 1) := by decide +kernel
theorem dX12_turnSign_11 : decode cX12_turnSign 11 = .ok (.ifCond .ne 15, 3) := by decide +kernel
theorem dX12_turnSign_14 : decode cX12_turnSign 14 = .ok (.aload_n 0, 1) := by decide +kernel
theorem dX12_turnSign_15 : decode cX12_turnSign 15 = .ok (.iload_n 1, 1) := by decide +kernel
theorem dX12_turnSign_16 : decode cX12_turnSign 16 = .ok (.invokevirtual 54, 3) := by decide +kernel
theorem dX12_turnSign_19 : decode cX12_turnSign 19 = .ok (.ifCond .ne 7, 3) := by decide +kernel
theorem dX12_turnSign_22 : decode cX12_turnSign 22 = .ok (.iconst 1, 1) := by decide +kernel
theorem dX12_turnSign_23 : decode cX12_turnSign 23 = .ok (.goto 4, 3) := by decide +kernel
theorem dX12_turnSign_26 : decode cX12_turnSign 26 = .ok (.iconst 0, 1) := by decide +kernel
theorem dX12_turnSign_27 : decode cX12_turnSign 27 = .ok (.bastore, 1) := by decide +kernel
theorem dX12_turnSign_28 : decode cX12_turnSign 28 = .ok (.return_, 1) := by decide +kernel
set_option maxRecDepth 20000 in
theorem ggX12_divideAll_X12_bigCopy : GoodIn wsX12_divideAll wsX12_bigCopy := goodIn_s _ [(6, 1), (1, 1), (7, 4), (5, 1), (11, 2), (39, 58)] rfl (by decide +kernel)
set_option maxRecDepth 20000 in
theorem gX12_divideAll_X12_bigCopy : GoodIn wsX12_divideAll (wsV RX12 58 RX12 yX12_bigCopy wsX12_bigCopy) := goodIn_app (goodIn_r _ [2, 3, 4, 5] rfl (by decide +kernel)) ggX12_divideAll_X12_bigCopy
set_option maxRecDepth 20000 in
theorem ggX12_divideAll_X12_bigDivide : GoodIn wsX12_divideAll wsX12_bigDivide := goodIn_s _ [(16, 1), (1, 1), (7, 1), (17, 1), (8, 1), (18, 3), (5, 1), (21, 1), (9, 4), (22, 13), (39, 58)] rfl (by decide +kernel)
set_option maxRecDepth 20000 in
theorem gX12_divideAll_X12_bigDivide : GoodIn wsX12_divideAll (wsV RX12 61 RX12 yX12_bigDivide wsX12_bigDivide) := goodIn_app (goodIn_r _ [13, 14, 15, 5] rfl (by decide +kernel)) ggX12_divideAll_X12_bigDivide
set_option maxRecDepth 20000 in
theorem ggX12_divideAll_X12_bigIsZero : GoodIn wsX12_divideAll wsX12_bigIsZero := goodIn_s _ [(38, 1), (7, 1), (39, 58)] rfl (by decide +kernel)
set_option maxRecDepth 20000 in
theorem gX12_divideAll_X12_bigIsZero : GoodIn wsX12_divideAll (wsV RX12 54 RX12 yX12_bigIsZero wsX12_bigIsZero) := goodIn_app (goodIn_r _ [35, 36, 37, 5] rfl (by decide +kernel)) ggX12_divideAll_X12_bigIsZero
theorem dX12_divideAll_0 : decode cX12_divideAll 0 = .ok (.aload_n 0, 1) := by decide +kernel
theorem dX12_divideAll_1 : decode cX12_divideAll 1 = .ok (.getfield 4, 3) := by decide +kernel
theorem dX12_divideAll_4 : decode cX12_divideAll 4 = .ok (.iload_n 1, 1) := by decide +kernel
theorem dX12_divideAll_5 : decode cX12_divideAll 5 = .ok (.baload, 1) := by decide +kernel
theorem dX12_divideAll_6 : decode cX12_divideAll 6 = .ok (.istore_n 3, 1) := by decide +kernel
theorem dX12_divideAll_7 : decode cX12_divideAll 7 = .ok (.aload_n 0, 1) := by decide +kernel
theorem dX12_divideAll_8 : decode cX12_divideAll 8 = .ok (.sipush 4247, 3) := by decide +kernel
theorem dX12_divideAll_11 : decode cX12_divideAll 11 = .ok (.iload_n 1, 1) := by decide +kernel
theorem dX12_divideAll_12 : decode cX12_divideAll 12 = .ok (.invokevirtual 58, 3) := by decide +kernel
theorem dX12_divideAll_15 : decode cX12_divideAll 15 = .ok (.aload_n 0, 1) := by decide +kernel
theorem dX12_divideAll_16 : decode cX12_divideAll 16 = .ok (.sipush 4248, 3) := by decide +kernel
theorem dX12_divideAll_19 : decode cX12_divideAll 19 = .ok (.iload_n 2, 1) := by decide +kernel
theorem dX12_divideAll_20 : decode cX12_divideAll 20 = .ok (.invokevirtual 58, 3) := by decide +kernel
theorem dX12_divideAll_23 : decode cX12_divideAll 23 = .ok (.aload_n 0, 1) := by decide +kernel
theorem dX12_divideAll_24 : decode cX12_divideAll 24 = .ok (.sipush 4247, 3) := by decide +kernel
theorem dX12_divideAll_27 : decode cX12_divideAll 27 = .ok (.sipush 4248, 3) := by decide +kernel
theorem dX12_divideAll_30 : decode cX12_divideAll 30 = .ok (.sipush 4246, 3) := by decide +kernel
theorem dX12_divideAll_33 : decode cX12_divideAll 33 = .ok (.invokevirtual 61, 3) := by decide +kernel
theorem dX12_divideAll_36 : decode cX12_divideAll 36 = .ok (.aload_n 0, 1) := by decide +kernel
theorem dX12_divideAll_37 : decode cX12_divideAll 37 = .ok (.iload_n 1, 1) := by decide +kernel
theorem dX12_divideAll_38 : decode cX12_divideAll 38 = .ok (.sipush 4246, 3) := by decide +kernel
theorem dX12_divideAll_41 : decode cX12_divideAll 41 = .ok (.invokevirtual 58, 3) := by decide +kernel
theorem dX12_divideAll_44 : decode cX12_divideAll 44 = .ok (.aload_n 0, 1) := by decide +kernel
theorem dX12_divideAll_45 : decode cX12_divideAll 45 = .ok (.getfield 4, 3) := by decide +kernel
theorem dX12_divideAll_48 : decode cX12_divideAll 48 = .ok (.iload_n 1, 1) := by decide +kernel
theorem dX12_divideAll_49 : decode cX12_divideAll 49 = .ok (.iload_n 3, 1) := by decide +kernel
theorem dX12_divideAll_50 : decode cX12_divideAll 50 = .ok (.ifCond .eq 15, 3) := by decide +kernel
theorem dX12_divideAll_53 : decode cX12_divideAll 53 = .ok (.aload_n 0, 1) := by decide +kernel
theorem dX12_divideAll_54 : decode cX12_divideAll 54 = .ok (.iload_n 1, 1) := by decide +kernel
theorem dX12_divideAll_55 : decode cX12_divideAll 55 = .ok (.invokevirtual 54, 3) := by decide +kernel
theorem dX12_divideAll_58 : decode cX12_divideAll 58 = .ok (.ifCond .ne 7, 3) := by decide +kernel
theorem dX12_divideAll_61 : decode cX12_divideAll 61 = .ok (.iconst 1, 1) := by decide +kernel
theorem dX12_divideAll_62 : decode cX12_divideAll 62 = .ok (.goto 4, 3) := by decide +kernel
theorem dX12_divideAll_65 : decode cX12_divideAll 65 = .ok (.iconst 0, 1) := by decide +kernel
theorem dX12_divideAll_66 : decode cX12_divideAll 66 = .ok (.bastore, 1) := by decide +kernel
theorem dX12_divideAll_67 : decode cX12_divideAll 67 = .ok (.return_, 1) := by decide +kernel
set_option maxRecDepth 20000 in
theorem ggX12_settle_X12_bigIsZero : GoodIn wsX12_settle wsX12_bigIsZero := goodIn_s _ [(6, 2), (51, 58)] rfl (by decide +kernel)
set_option maxRecDepth 20000 in
theorem gX12_settle_X12_bigIsZero : GoodIn wsX12_settle (wsV RX12 54 RX12 yX12_bigIsZero wsX12_bigIsZero) := goodIn_app (goodIn_r _ [2, 3, 4, 5] rfl (by decide +kernel)) ggX12_settle_X12_bigIsZero
set_option maxRecDepth 20000 in
theorem ggX12_settle_X12_bigSet : GoodIn wsX12_settle wsX12_bigSet := goodIn_s _ [(11, 1), (1, 1), (12, 2), (7, 1), (14, 2), (5, 1), (16, 2), (51, 58)] rfl (by decide +kernel)
set_option maxRecDepth 20000 in
theorem gX12_settle_X12_bigSet : GoodIn wsX12_settle (wsV RX12 65 RX12 yX12_bigSet wsX12_bigSet) := goodIn_app (goodIn_r _ [8, 9, 10, 5] rfl (by decide +kernel)) ggX12_settle_X12_bigSet
set_option maxRecDepth 20000 in
theorem ggX12_settle_X12_bigCopy : GoodIn wsX12_settle wsX12_bigCopy := goodIn_s _ [(21, 1), (1, 1), (7, 1), (12, 1), (14, 2), (5, 1), (16, 2), (51, 58)] rfl (by decide +kernel)
set_option maxRecDepth 20000 in
theorem gX12_settle_X12_bigCopy : GoodIn wsX12_settle (wsV RX12 58 RX12 yX12_bigCopy wsX12_bigCopy) := goodIn_app (goodIn_r _ [18, 19, 20, 5] rfl (by decide +kernel)) ggX12_settle_X12_bigCopy
set_option maxRecDepth 20000 in
theorem ggX12_settle_X12_bigDivide : GoodIn wsX12_settle wsX12_bigDivide := goodIn_s _ [(25, 1), (1, 1), (7, 1), (26, 1), (12, 1), (27, 3), (5, 1), (30, 1), (14, 4), (31, 8), (13, 1), (39, 4), (51, 58)] rfl (by decide +kernel)
set_option maxRecDepth 20000 in
theorem gX12_settle_X12_bigDivide : GoodIn wsX12_settle (wsV RX12 61 RX12 yX12_bigDivide wsX12_bigDivide) := goodIn_app (goodIn_r _ [22, 23, 24, 5] rfl (by decide +kernel)) ggX12_settle_X12_bigDivide
set_option maxRecDepth 20000 in
theorem ggX12_settle_X12_bigIsOne : GoodIn wsX12_settle wsX12_bigIsOne := goodIn_s _ [(46, 1), (7, 1), (12, 1), (14, 2), (5, 1), (16, 2), (51, 58)] rfl (by decide +kernel)
set_option maxRecDepth 20000 in
theorem gX12_settle_X12_bigIsOne : GoodIn wsX12_settle (wsV RX12 69 RX12 yX12_bigIsOne wsX12_bigIsOne) := goodIn_app (goodIn_r _ [43, 44, 45, 5] rfl (by decide +kernel)) ggX12_settle_X12_bigIsOne
set_option maxRecDepth 20000 in
theorem ggX12_settle_X12_divideAll : GoodIn wsX12_settle wsX12_divideAll := goodIn_s _ [(50, 1), (1, 1), (18, 3), (5, 1), (21, 1), (7, 1), (12, 1), (14, 4), (22, 17), (13, 1), (39, 4), (2, 3), (6, 1), (51, 58)] rfl (by decide +kernel)
set_option maxRecDepth 20000 in
theorem gX12_settle_X12_divideAll : GoodIn wsX12_settle (wsV RX12 72 RX12 yX12_divideAll wsX12_divideAll) := goodIn_app (goodIn_r _ [47, 48, 49, 5] rfl (by decide +kernel)) ggX12_settle_X12_divideAll
theorem dX12_settle_0 : decode cX12_settle 0 = .ok (.aload_n 0, 1) := by decide +kernel
theorem dX12_settle_1 : decode cX12_settle 1 = .ok (.sipush 4243, 3) := by decide +kernel
theorem dX12_settle_4 : decode cX12_settle 4 = .ok (.invokevirtual 54, 3) := by decide +kernel
theorem dX12_settle_7 : decode cX12_settle 7 = .ok (.ifCond .eq 18, 3) := by decide +kernel
theorem dX12_settle_10 : decode cX12_settle 10 = .ok (.aload_n 0, 1) := by decide +kernel
theorem dX12_settle_11 : decode cX12_settle 11 = .ok (.iload_n 1, 1) := by decide +kernel
theorem dX12_settle_12 : decode cX12_settle 12 = .ok (.lconst 0, 1) := by decide +kernel
theorem dX12_settle_13 : decode cX12_settle 13 = .ok (.invokevirtual 65, 3) := by decide +kernel
theorem dX12_settle_16 : decode cX12_settle 16 = .ok (.aload_n 0, 1) := by decide +kernel
theorem dX12_settle_17 : decode cX12_settle 17 = .ok (.iload_n 1, 1) := by decide +kernel
theorem dX12_settle_18 : decode cX12_settle 18 = .ok (.iconst 1, 1) := by decide +kernel
theorem dX12_settle_19 : decode cX12_settle 19 = .ok (.iadd, 1) := by decide +kernel
theorem dX12_settle_20 : decode cX12_settle 20 = .ok (.lconst 1, 1) := by decide +kernel
theorem dX12_settle_21 : decode cX12_settle 21 = .ok (.invokevirtual 65, 3) := by decide +kernel
theorem dX12_settle_24 : decode cX12_settle 24 = .ok (.return_, 1) := by decide +kernel
theorem dX12_settle_25 : decode cX12_settle 25 = .ok (.aload_n 0, 1) := by decide +kernel
theorem dX12_settle_26 : decode cX12_settle 26 = .ok (.sipush 4245, 3) := by decide +kernel
theorem dX12_settle_29 : decode cX12_settle 29 = .ok (.sipush 4243, 3) := by decide +kernel
theorem dX12_settle_32 : decode cX12_settle 32 = .ok (.invokevirtual 58, 3) := by decide +kernel
theorem dX12_settle_35 : decode cX12_settle 35 = .ok (.aload_n 0, 1) := by decide +kernel
theorem dX12_settle_36 : decode cX12_settle 36 = .ok (.getfield 4, 3) := by decide +kernel
theorem dX12_settle_39 : decode cX12_settle 39 = .ok (.sipush 4245, 3) := by decide +kernel
theorem dX12_settle_42 : decode cX12_settle 42 = .ok (.iconst 0, 1) := by decide +kernel
theorem dX12_settle_43 : decode cX12_settle 43 = .ok (.bastore, 1) := by decide +kernel
theorem dX12_settle_44 : decode cX12_settle 44 = .ok (.aload_n 0, 1) := by decide +kernel
theorem dX12_settle_45 : decode cX12_settle 45 = .ok (.sipush 4249, 3) := by decide +kernel
theorem dX12_settle_48 : decode cX12_settle 48 = .ok (.sipush 4244, 3) := by decide +kernel
theorem dX12_settle_51 : decode cX12_settle 51 = .ok (.invokevirtual 58, 3) := by decide +kernel
theorem dX12_settle_54 : decode cX12_settle 54 = .ok (.aload_n 0, 1) := by decide +kernel
theorem dX12_settle_55 : decode cX12_settle 55 = .ok (.sipush 4249, 3) := by decide +kernel
theorem dX12_settle_58 : decode cX12_settle 58 = .ok (.invokevirtual 54, 3) := by decide +kernel
theorem dX12_settle_61 : decode cX12_settle 61 = .ok (.ifCond .ne 59, 3) := by decide +kernel
theorem dX12_settle_64 : decode cX12_settle 64 = .ok (.aload_n 0, 1) := by decide +kernel
theorem dX12_settle_65 : decode cX12_settle 65 = .ok (.sipush 4248, 3) := by decide +kernel
theorem dX12_settle_68 : decode cX12_settle 68 = .ok (.sipush 4249, 3) := by decide +kernel
theorem dX12_settle_71 : decode cX12_settle 71 = .ok (.invokevirtual 58, 3) := by decide +kernel
theorem dX12_settle_74 : decode cX12_settle 74 = .ok (.aload_n 0, 1) := by decide +kernel
theorem dX12_settle_75 : decode cX12_settle 75 = .ok (.sipush 4245, 3) := by decide +kernel
theorem dX12_settle_78 : decode cX12_settle 78 = .ok (.sipush 4248, 3) := by decide +kernel
theorem dX12_settle_81 : decode cX12_settle 81 = .ok (.sipush 4246, 3) := by decide +kernel
theorem dX12_settle_84 : decode cX12_settle 84 = .ok (.invokevirtual 61, 3) := by decide +kernel
theorem dX12_settle_87 : decode cX12_settle 87 = .ok (.aload_n 0, 1) := by decide +kernel
theorem dX12_settle_88 : decode cX12_settle 88 = .ok (.sipush 4247, 3) := by decide +kernel
theorem dX12_settle_91 : decode cX12_settle 91 = .ok (.sipush 4245, 3) := by decide +kernel
theorem dX12_settle_94 : decode cX12_settle 94 = .ok (.invokevirtual 58, 3) := by decide +kernel
theorem dX12_settle_97 : decode cX12_settle 97 = .ok (.aload_n 0, 1) := by decide +kernel
theorem dX12_settle_98 : decode cX12_settle 98 = .ok (.sipush 4245, 3) := by decide +kernel
theorem dX12_settle_101 : decode cX12_settle 101 = .ok (.sipush 4249, 3) := by decide +kernel
theorem dX12_settle_104 : decode cX12_settle 104 = .ok (.invokevirtual 58, 3) := by decide +kernel
theorem dX12_settle_107 : decode cX12_settle 107 = .ok (.aload_n 0, 1) := by decide +kernel
theorem dX12_settle_108 : decode cX12_settle 108 = .ok (.sipush 4249, 3) := by decide +kernel
theorem dX12_settle_111 : decode cX12_settle 111 = .ok (.sipush 4247, 3) := by decide +kernel
theorem dX12_settle_114 : decode cX12_settle 114 = .ok (.invokevirtual 58, 3) := by decide +kernel
theorem dX12_settle_117 : decode cX12_settle 117 = .ok (.goto (-63), 3) := by decide +kernel
theorem dX12_settle_120 : decode cX12_settle 120 = .ok (.aload_n 0, 1) := by decide +kernel
theorem dX12_settle_121 : decode cX12_settle 121 = .ok (.sipush 4245, 3) := by decide +kernel
theorem dX12_settle_124 : decode cX12_settle 124 = .ok (.invokevirtual 69, 3) := by decide +kernel
theorem dX12_settle_127 : decode cX12_settle 127 = .ok (.ifCond .ne 23, 3) := by decide +kernel
theorem dX12_settle_130 : decode cX12_settle 130 = .ok (.aload_n 0, 1) := by decide +kernel
theorem dX12_settle_131 : decode cX12_settle 131 = .ok (.sipush 4243, 3) := by decide +kernel
theorem dX12_settle_134 : decode cX12_settle 134 = .ok (.sipush 4245, 3) := by decide +kernel
theorem dX12_settle_137 : decode cX12_settle 137 = .ok (.invokevirtual 72, 3) := by decide +kernel
theorem dX12_settle_140 : decode cX12_settle 140 = .ok (.aload_n 0, 1) := by decide +kernel
theorem dX12_settle_141 : decode cX12_settle 141 = .ok (.sipush 4244, 3) := by decide +kernel
theorem dX12_settle_144 : decode cX12_settle 144 = .ok (.sipush 4245, 3) := by decide +kernel
theorem dX12_settle_147 : decode cX12_settle 147 = .ok (.invokevirtual 72, 3) := by decide +kernel
theorem dX12_settle_150 : decode cX12_settle 150 = .ok (.aload_n 0, 1) := by decide +kernel
theorem dX12_settle_151 : decode cX12_settle 151 = .ok (.iload_n 1, 1) := by decide +kernel
theorem dX12_settle_152 : decode cX12_settle 152 = .ok (.sipush 4243, 3) := by decide +kernel
theorem dX12_settle_155 : decode cX12_settle 155 = .ok (.invokevirtual 58, 3) := by decide +kernel
theorem dX12_settle_158 : decode cX12_settle 158 = .ok (.aload_n 0, 1) := by decide +kernel
theorem dX12_settle_159 : decode cX12_settle 159 = .ok (.iload_n 1, 1) := by decide +kernel
theorem dX12_settle_160 : decode cX12_settle 160 = .ok (.iconst 1, 1) := by decide +kernel
theorem dX12_settle_161 : decode cX12_settle 161 = .ok (.iadd, 1) := by decide +kernel
theorem dX12_settle_162 : decode cX12_settle 162 = .ok (.sipush 4244, 3) := by decide +kernel
theorem dX12_settle_165 : decode cX12_settle 165 = .ok (.invokevirtual 58, 3) := by decide +kernel
theorem dX12_settle_168 : decode cX12_settle 168 = .ok (.return_, 1) := by decide +kernel
set_option maxRecDepth 20000 in
theorem ggX12_setFraction_X12_bigSet : GoodIn wsX12_setFraction wsX12_bigSet := goodIn_s _ [(5, 7), (4, 1), (12, 2), (55, 58)] rfl (by decide +kernel)
set_option maxRecDepth 20000 in
theorem gX12_setFraction_X12_bigSet : GoodIn wsX12_setFraction (wsV RX12 65 RX12 yX12_bigSet wsX12_bigSet) := goodIn_app (goodIn_r _ [1, 2, 3, 4] rfl (by decide +kernel)) ggX12_setFraction_X12_bigSet
set_option maxRecDepth 20000 in
theorem ggX12_setFraction_X12_settle : GoodIn wsX12_setFraction wsX12_settle := goodIn_s _ [(17, 1), (6, 1), (18, 3), (4, 1), (21, 1), (9, 1), (1, 3), (5, 1), (7, 2), (10, 4), (22, 91)] rfl (by decide +kernel)
set_option maxRecDepth 20000 in
theorem gX12_setFraction_X12_settle : GoodIn wsX12_setFraction (wsV RX12 75 RX12 yX12_settle wsX12_settle) := goodIn_app (goodIn_r _ [14, 15, 16, 4] rfl (by decide +kernel)) ggX12_setFraction_X12_settle
theorem dX12_setFraction_0 : decode cX12_setFraction 0 = .ok (.aload_n 0, 1) := by decide +kernel
theorem dX12_setFraction_1 : decode cX12_setFraction 1 = .ok (.sipush 4243, 3) := by decide +kernel
theorem dX12_setFraction_4 : decode cX12_setFraction 4 = .ok (.lload_n 2, 1) := by decide +kernel
theorem dX12_setFraction_5 : decode cX12_setFraction 5 = .ok (.invokevirtual 65, 3) := by decide +kernel
theorem dX12_setFraction_8 : decode cX12_setFraction 8 = .ok (.aload_n 0, 1) := by decide +kernel
theorem dX12_setFraction_9 : decode cX12_setFraction 9 = .ok (.sipush 4244, 3) := by decide +kernel
theorem dX12_setFraction_12 : decode cX12_setFraction 12 = .ok (.lload 4, 2) := by decide +kernel
theorem dX12_setFraction_14 : decode cX12_setFraction 14 = .ok (.invokevirtual 65, 3) := by decide +kernel
theorem dX12_setFraction_17 : decode cX12_setFraction 17 = .ok (.aload_n 0, 1) := by decide +kernel
theorem dX12_setFraction_18 : decode cX12_setFraction 18 = .ok (.iload_n 1, 1) := by decide +kernel
theorem dX12_setFraction_19 : decode cX12_setFraction 19 = .ok (.invokevirtual 75, 3) := by decide +kernel
theorem dX12_setFraction_22 : decode cX12_setFraction 22 = .ok (.return_, 1) := by decide +kernel
set_option maxRecDepth 20000 in
theorem ggX12_addFraction_X12_bigProduct : GoodIn wsX12_addFraction wsX12_bigProduct := goodIn_s _ [(5, 7), (4, 1), (12, 6), (76, 58)] rfl (by decide +kernel)
set_option maxRecDepth 20000 in
theorem gX12_addFraction_X12_bigProduct : GoodIn wsX12_addFraction (wsV RX12 78 RX12 yX12_bigProduct wsX12_bigProduct) := goodIn_app (goodIn_r _ [1, 2, 3, 4] rfl (by decide +kernel)) ggX12_addFraction_X12_bigProduct
set_option maxRecDepth 20000 in
theorem ggX12_addFraction_X12_bigAdd : GoodIn wsX12_addFraction wsX12_bigAdd := goodIn_s _ [(21, 1), (9, 1), (22, 3), (4, 1), (25, 1), (6, 2), (26, 5), (10, 4), (31, 8), (14, 4), (76, 58)] rfl (by decide +kernel)
set_option maxRecDepth 20000 in
theorem gX12_addFraction_X12_bigAdd : GoodIn wsX12_addFraction (wsV RX12 81 RX12 yX12_bigAdd wsX12_bigAdd) := goodIn_app (goodIn_r _ [18, 19, 20, 4] rfl (by decide +kernel)) ggX12_addFraction_X12_bigAdd
set_option maxRecDepth 20000 in
theorem ggX12_addFraction_X12_settle : GoodIn wsX12_addFraction wsX12_settle := goodIn_s _ [(42, 1), (9, 1), (43, 3), (4, 1), (46, 1), (6, 1), (47, 4), (7, 1), (51, 1), (10, 4), (52, 8), (8, 1), (27, 4), (60, 8), (14, 4), (68, 66)] rfl (by decide +kernel)
set_option maxRecDepth 20000 in
theorem gX12_addFraction_X12_settle : GoodIn wsX12_addFraction (wsV RX12 75 RX12 yX12_settle wsX12_settle) := goodIn_app (goodIn_r _ [39, 40, 41, 4] rfl (by decide +kernel)) ggX12_addFraction_X12_settle
theorem dX12_addFraction_0 : decode cX12_addFraction 0 = .ok (.aload_n 0, 1) := by decide +kernel
theorem dX12_addFraction_1 : decode cX12_addFraction 1 = .ok (.sipush 4243, 3) := by decide +kernel
