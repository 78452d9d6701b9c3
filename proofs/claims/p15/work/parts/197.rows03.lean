theorem dX12_addFraction_4 : decode cX12_addFraction 4 = .ok (.iload_n 1, 1) := by decide +kernel
theorem dX12_addFraction_5 : decode cX12_addFraction 5 = .ok (.iload_n 2, 1) := by decide +kernel
theorem dX12_addFraction_6 : decode cX12_addFraction 6 = .ok (.iconst 1, 1) := by decide +kernel
theorem dX12_addFraction_7 : decode cX12_addFraction 7 = .ok (.iadd, 1) := by decide +kernel
theorem dX12_addFraction_8 : decode cX12_addFraction 8 = .ok (.invokevirtual 78, 3) := by decide +kernel
theorem dX12_addFraction_11 : decode cX12_addFraction 11 = .ok (.aload_n 0, 1) := by decide +kernel
theorem dX12_addFraction_12 : decode cX12_addFraction 12 = .ok (.sipush 4245, 3) := by decide +kernel
theorem dX12_addFraction_15 : decode cX12_addFraction 15 = .ok (.iload_n 2, 1) := by decide +kernel
theorem dX12_addFraction_16 : decode cX12_addFraction 16 = .ok (.iload_n 1, 1) := by decide +kernel
theorem dX12_addFraction_17 : decode cX12_addFraction 17 = .ok (.iconst 1, 1) := by decide +kernel
theorem dX12_addFraction_18 : decode cX12_addFraction 18 = .ok (.iadd, 1) := by decide +kernel
theorem dX12_addFraction_19 : decode cX12_addFraction 19 = .ok (.invokevirtual 78, 3) := by decide +kernel
theorem dX12_addFraction_22 : decode cX12_addFraction 22 = .ok (.aload_n 0, 1) := by decide +kernel
theorem dX12_addFraction_23 : decode cX12_addFraction 23 = .ok (.sipush 4243, 3) := by decide +kernel
theorem dX12_addFraction_26 : decode cX12_addFraction 26 = .ok (.sipush 4245, 3) := by decide +kernel
theorem dX12_addFraction_29 : decode cX12_addFraction 29 = .ok (.iconst 0, 1) := by decide +kernel
theorem dX12_addFraction_30 : decode cX12_addFraction 30 = .ok (.invokevirtual 81, 3) := by decide +kernel
theorem dX12_addFraction_33 : decode cX12_addFraction 33 = .ok (.aload_n 0, 1) := by decide +kernel
theorem dX12_addFraction_34 : decode cX12_addFraction 34 = .ok (.sipush 4244, 3) := by decide +kernel
theorem dX12_addFraction_37 : decode cX12_addFraction 37 = .ok (.iload_n 1, 1) := by decide +kernel
theorem dX12_addFraction_38 : decode cX12_addFraction 38 = .ok (.iconst 1, 1) := by decide +kernel
theorem dX12_addFraction_39 : decode cX12_addFraction 39 = .ok (.iadd, 1) := by decide +kernel
theorem dX12_addFraction_40 : decode cX12_addFraction 40 = .ok (.iload_n 2, 1) := by decide +kernel
theorem dX12_addFraction_41 : decode cX12_addFraction 41 = .ok (.iconst 1, 1) := by decide +kernel
theorem dX12_addFraction_42 : decode cX12_addFraction 42 = .ok (.iadd, 1) := by decide +kernel
theorem dX12_addFraction_43 : decode cX12_addFraction 43 = .ok (.invokevirtual 78, 3) := by decide +kernel
theorem dX12_addFraction_46 : decode cX12_addFraction 46 = .ok (.aload_n 0, 1) := by decide +kernel
theorem dX12_addFraction_47 : decode cX12_addFraction 47 = .ok (.iload_n 1, 1) := by decide +kernel
theorem dX12_addFraction_48 : decode cX12_addFraction 48 = .ok (.invokevirtual 75, 3) := by decide +kernel
theorem dX12_addFraction_51 : decode cX12_addFraction 51 = .ok (.return_, 1) := by decide +kernel
set_option maxRecDepth 20000 in
theorem ggX12_times_X12_bigSet : GoodIn wsX12_times wsX12_bigSet := goodIn_s _ [(5, 7), (4, 1), (12, 2), (59, 58)] rfl (by decide +kernel)
set_option maxRecDepth 20000 in
theorem gX12_times_X12_bigSet : GoodIn wsX12_times (wsV RX12 65 RX12 yX12_bigSet wsX12_bigSet) := goodIn_app (goodIn_r _ [1, 2, 3, 4] rfl (by decide +kernel)) ggX12_times_X12_bigSet
set_option maxRecDepth 20000 in
theorem ggX12_times_X12_bigProduct : GoodIn wsX12_times wsX12_bigProduct := goodIn_s _ [(17, 1), (9, 1), (7, 1), (18, 1), (6, 1), (10, 2), (4, 1), (12, 2), (19, 4), (59, 58)] rfl (by decide +kernel)
set_option maxRecDepth 20000 in
theorem gX12_times_X12_bigProduct : GoodIn wsX12_times (wsV RX12 78 RX12 yX12_bigProduct wsX12_bigProduct) := goodIn_app (goodIn_r _ [14, 15, 16, 4] rfl (by decide +kernel)) ggX12_times_X12_bigProduct
set_option maxRecDepth 20000 in
theorem ggX12_times_X12_settle : GoodIn wsX12_times wsX12_settle := goodIn_s _ [(26, 1), (6, 1), (27, 3), (4, 1), (30, 1), (9, 1), (1, 3), (5, 1), (7, 2), (10, 4), (31, 8), (18, 1), (39, 12), (19, 4), (51, 66)] rfl (by decide +kernel)
set_option maxRecDepth 20000 in
theorem gX12_times_X12_settle : GoodIn wsX12_times (wsV RX12 75 RX12 yX12_settle wsX12_settle) := goodIn_app (goodIn_r _ [23, 24, 25, 4] rfl (by decide +kernel)) ggX12_times_X12_settle
theorem dX12_times_0 : decode cX12_times 0 = .ok (.aload_n 0, 1) := by decide +kernel
theorem dX12_times_1 : decode cX12_times 1 = .ok (.sipush 4249, 3) := by decide +kernel
theorem dX12_times_4 : decode cX12_times 4 = .ok (.lload_n 2, 1) := by decide +kernel
theorem dX12_times_5 : decode cX12_times 5 = .ok (.invokevirtual 65, 3) := by decide +kernel
theorem dX12_times_8 : decode cX12_times 8 = .ok (.aload_n 0, 1) := by decide +kernel
theorem dX12_times_9 : decode cX12_times 9 = .ok (.sipush 4243, 3) := by decide +kernel
theorem dX12_times_12 : decode cX12_times 12 = .ok (.iload_n 1, 1) := by decide +kernel
theorem dX12_times_13 : decode cX12_times 13 = .ok (.sipush 4249, 3) := by decide +kernel
theorem dX12_times_16 : decode cX12_times 16 = .ok (.invokevirtual 78, 3) := by decide +kernel
theorem dX12_times_19 : decode cX12_times 19 = .ok (.aload_n 0, 1) := by decide +kernel
theorem dX12_times_20 : decode cX12_times 20 = .ok (.sipush 4249, 3) := by decide +kernel
theorem dX12_times_23 : decode cX12_times 23 = .ok (.lload 4, 2) := by decide +kernel
theorem dX12_times_25 : decode cX12_times 25 = .ok (.invokevirtual 65, 3) := by decide +kernel
theorem dX12_times_28 : decode cX12_times 28 = .ok (.aload_n 0, 1) := by decide +kernel
theorem dX12_times_29 : decode cX12_times 29 = .ok (.sipush 4244, 3) := by decide +kernel
theorem dX12_times_32 : decode cX12_times 32 = .ok (.iload_n 1, 1) := by decide +kernel
theorem dX12_times_33 : decode cX12_times 33 = .ok (.iconst 1, 1) := by decide +kernel
theorem dX12_times_34 : decode cX12_times 34 = .ok (.iadd, 1) := by decide +kernel
theorem dX12_times_35 : decode cX12_times 35 = .ok (.sipush 4249, 3) := by decide +kernel
theorem dX12_times_38 : decode cX12_times 38 = .ok (.invokevirtual 78, 3) := by decide +kernel
theorem dX12_times_41 : decode cX12_times 41 = .ok (.aload_n 0, 1) := by decide +kernel
theorem dX12_times_42 : decode cX12_times 42 = .ok (.iload_n 1, 1) := by decide +kernel
theorem dX12_times_43 : decode cX12_times 43 = .ok (.invokevirtual 75, 3) := by decide +kernel
theorem dX12_times_46 : decode cX12_times 46 = .ok (.return_, 1) := by decide +kernel
set_option maxRecDepth 20000 in
theorem ggX12_compareFractions_X12_bigProduct : GoodIn wsX12_compareFractions wsX12_bigProduct := goodIn_s _ [(5, 7), (4, 1), (12, 6), (34, 58)] rfl (by decide +kernel)
set_option maxRecDepth 20000 in
theorem gX12_compareFractions_X12_bigProduct : GoodIn wsX12_compareFractions (wsV RX12 78 RX12 yX12_bigProduct wsX12_bigProduct) := goodIn_app (goodIn_r _ [1, 2, 3, 4] rfl (by decide +kernel)) ggX12_compareFractions_X12_bigProduct
set_option maxRecDepth 20000 in
theorem ggX12_compareFractions_X12_bigCompare : GoodIn wsX12_compareFractions wsX12_bigCompare := goodIn_s _ [(21, 4), (4, 1), (25, 1), (6, 1), (9, 1), (26, 8), (7, 1), (10, 4), (34, 58)] rfl (by decide +kernel)
set_option maxRecDepth 20000 in
theorem gX12_compareFractions_X12_bigCompare : GoodIn wsX12_compareFractions (wsV RX12 84 RX12 yX12_bigCompare wsX12_bigCompare) := goodIn_app (goodIn_r _ [18, 19, 20, 4] rfl (by decide +kernel)) ggX12_compareFractions_X12_bigCompare
theorem dX12_compareFractions_0 : decode cX12_compareFractions 0 = .ok (.aload_n 0, 1) := by decide +kernel
theorem dX12_compareFractions_1 : decode cX12_compareFractions 1 = .ok (.sipush 4243, 3) := by decide +kernel
theorem dX12_compareFractions_4 : decode cX12_compareFractions 4 = .ok (.iload_n 1, 1) := by decide +kernel
theorem dX12_compareFractions_5 : decode cX12_compareFractions 5 = .ok (.iload_n 2, 1) := by decide +kernel
theorem dX12_compareFractions_6 : decode cX12_compareFractions 6 = .ok (.iconst 1, 1) := by decide +kernel
theorem dX12_compareFractions_7 : decode cX12_compareFractions 7 = .ok (.iadd, 1) := by decide +kernel
theorem dX12_compareFractions_8 : decode cX12_compareFractions 8 = .ok (.invokevirtual 78, 3) := by decide +kernel
theorem dX12_compareFractions_11 : decode cX12_compareFractions 11 = .ok (.aload_n 0, 1) := by decide +kernel
theorem dX12_compareFractions_12 : decode cX12_compareFractions 12 = .ok (.sipush 4244, 3) := by decide +kernel
theorem dX12_compareFractions_15 : decode cX12_compareFractions 15 = .ok (.iload_n 2, 1) := by decide +kernel
theorem dX12_compareFractions_16 : decode cX12_compareFractions 16 = .ok (.iload_n 1, 1) := by decide +kernel
theorem dX12_compareFractions_17 : decode cX12_compareFractions 17 = .ok (.iconst 1, 1) := by decide +kernel
theorem dX12_compareFractions_18 : decode cX12_compareFractions 18 = .ok (.iadd, 1) := by decide +kernel
theorem dX12_compareFractions_19 : decode cX12_compareFractions 19 = .ok (.invokevirtual 78, 3) := by decide +kernel
theorem dX12_compareFractions_22 : decode cX12_compareFractions 22 = .ok (.aload_n 0, 1) := by decide +kernel
theorem dX12_compareFractions_23 : decode cX12_compareFractions 23 = .ok (.sipush 4243, 3) := by decide +kernel
theorem dX12_compareFractions_26 : decode cX12_compareFractions 26 = .ok (.sipush 4244, 3) := by decide +kernel
theorem dX12_compareFractions_29 : decode cX12_compareFractions 29 = .ok (.invokevirtual 84, 3) := by decide +kernel
theorem dX12_compareFractions_32 : decode cX12_compareFractions 32 = .ok (.ireturn, 1) := by decide +kernel
set_option maxRecDepth 20000 in
theorem ggX12_exchangeCell_X12_bigProduct : GoodIn wsX12_exchangeCell wsX12_bigProduct := goodIn_s _ [(5, 7), (4, 1), (12, 6), (68, 58)] rfl (by decide +kernel)
set_option maxRecDepth 20000 in
theorem gX12_exchangeCell_X12_bigProduct : GoodIn wsX12_exchangeCell (wsV RX12 78 RX12 yX12_bigProduct wsX12_bigProduct) := goodIn_app (goodIn_r _ [1, 2, 3, 4] rfl (by decide +kernel)) ggX12_exchangeCell_X12_bigProduct
set_option maxRecDepth 20000 in
theorem ggX12_exchangeCell_X12_bigAdd : GoodIn wsX12_exchangeCell wsX12_bigAdd := goodIn_s _ [(21, 1), (9, 1), (22, 3), (4, 1), (25, 1), (6, 2), (26, 5), (10, 4), (31, 8), (14, 4), (68, 58)] rfl (by decide +kernel)
set_option maxRecDepth 20000 in
theorem gX12_exchangeCell_X12_bigAdd : GoodIn wsX12_exchangeCell (wsV RX12 81 RX12 yX12_bigAdd wsX12_bigAdd) := goodIn_app (goodIn_r _ [18, 19, 20, 4] rfl (by decide +kernel)) ggX12_exchangeCell_X12_bigAdd
set_option maxRecDepth 20000 in
theorem ggX12_exchangeCell_X12_bigIsOne : GoodIn wsX12_exchangeCell wsX12_bigIsOne := goodIn_s _ [(42, 1), (6, 2), (10, 2), (4, 1), (12, 2), (68, 58)] rfl (by decide +kernel)
set_option maxRecDepth 20000 in
theorem gX12_exchangeCell_X12_bigIsOne : GoodIn wsX12_exchangeCell (wsV RX12 69 RX12 yX12_bigIsOne wsX12_bigIsOne) := goodIn_app (goodIn_r _ [39, 40, 41, 4] rfl (by decide +kernel)) ggX12_exchangeCell_X12_bigIsOne
set_option maxRecDepth 20000 in
theorem ggX12_exchangeCell_X12_divideAll : GoodIn wsX12_exchangeCell wsX12_divideAll := goodIn_s _ [(46, 1), (9, 1), (47, 3), (4, 1), (50, 1), (6, 2), (10, 4), (51, 4), (8, 1), (27, 4), (55, 9), (14, 4), (64, 62)] rfl (by decide +kernel)
set_option maxRecDepth 20000 in
theorem gX12_exchangeCell_X12_divideAll : GoodIn wsX12_exchangeCell (wsV RX12 72 RX12 yX12_divideAll wsX12_divideAll) := goodIn_app (goodIn_r _ [43, 44, 45, 4] rfl (by decide +kernel)) ggX12_exchangeCell_X12_divideAll
set_option maxRecDepth 20000 in
theorem ggX12_exchangeCell_X12_bigCopy : GoodIn wsX12_exchangeCell wsX12_bigCopy := goodIn_s _ [(50, 1), (9, 1), (6, 2), (10, 2), (4, 1), (12, 2), (68, 58)] rfl (by decide +kernel)
set_option maxRecDepth 20000 in
theorem gX12_exchangeCell_X12_bigCopy : GoodIn wsX12_exchangeCell (wsV RX12 58 RX12 yX12_bigCopy wsX12_bigCopy) := goodIn_app (goodIn_r _ [47, 48, 49, 4] rfl (by decide +kernel)) ggX12_exchangeCell_X12_bigCopy
theorem dX12_exchangeCell_0 : decode cX12_exchangeCell 0 = .ok (.aload_n 0, 1) := by decide +kernel
theorem dX12_exchangeCell_1 : decode cX12_exchangeCell 1 = .ok (.sipush 4243, 3) := by decide +kernel
theorem dX12_exchangeCell_4 : decode cX12_exchangeCell 4 = .ok (.sipush 4226, 3) := by decide +kernel
theorem dX12_exchangeCell_7 : decode cX12_exchangeCell 7 = .ok (.iload_n 1, 1) := by decide +kernel
theorem dX12_exchangeCell_8 : decode cX12_exchangeCell 8 = .ok (.invokevirtual 78, 3) := by decide +kernel
theorem dX12_exchangeCell_11 : decode cX12_exchangeCell 11 = .ok (.aload_n 0, 1) := by decide +kernel
theorem dX12_exchangeCell_12 : decode cX12_exchangeCell 12 = .ok (.sipush 4245, 3) := by decide +kernel
theorem dX12_exchangeCell_15 : decode cX12_exchangeCell 15 = .ok (.iload_n 2, 1) := by decide +kernel
theorem dX12_exchangeCell_16 : decode cX12_exchangeCell 16 = .ok (.iload_n 3, 1) := by decide +kernel
theorem dX12_exchangeCell_17 : decode cX12_exchangeCell 17 = .ok (.invokevirtual 78, 3) := by decide +kernel
theorem dX12_exchangeCell_20 : decode cX12_exchangeCell 20 = .ok (.aload_n 0, 1) := by decide +kernel
theorem dX12_exchangeCell_21 : decode cX12_exchangeCell 21 = .ok (.sipush 4243, 3) := by decide +kernel
theorem dX12_exchangeCell_24 : decode cX12_exchangeCell 24 = .ok (.sipush 4245, 3) := by decide +kernel
theorem dX12_exchangeCell_27 : decode cX12_exchangeCell 27 = .ok (.iconst 1, 1) := by decide +kernel
theorem dX12_exchangeCell_28 : decode cX12_exchangeCell 28 = .ok (.invokevirtual 81, 3) := by decide +kernel
theorem dX12_exchangeCell_31 : decode cX12_exchangeCell 31 = .ok (.aload_n 0, 1) := by decide +kernel
theorem dX12_exchangeCell_32 : decode cX12_exchangeCell 32 = .ok (.sipush 4225, 3) := by decide +kernel
theorem dX12_exchangeCell_35 : decode cX12_exchangeCell 35 = .ok (.invokevirtual 69, 3) := by decide +kernel
theorem dX12_exchangeCell_38 : decode cX12_exchangeCell 38 = .ok (.ifCond .ne 13, 3) := by decide +kernel
theorem dX12_exchangeCell_41 : decode cX12_exchangeCell 41 = .ok (.aload_n 0, 1) := by decide +kernel
theorem dX12_exchangeCell_42 : decode cX12_exchangeCell 42 = .ok (.sipush 4243, 3) := by decide +kernel
theorem dX12_exchangeCell_45 : decode cX12_exchangeCell 45 = .ok (.sipush 4225, 3) := by decide +kernel
theorem dX12_exchangeCell_48 : decode cX12_exchangeCell 48 = .ok (.invokevirtual 72, 3) := by decide +kernel
theorem dX12_exchangeCell_51 : decode cX12_exchangeCell 51 = .ok (.aload_n 0, 1) := by decide +kernel
theorem dX12_exchangeCell_52 : decode cX12_exchangeCell 52 = .ok (.iload_n 1, 1) := by decide +kernel
theorem dX12_exchangeCell_53 : decode cX12_exchangeCell 53 = .ok (.sipush 4243, 3) := by decide +kernel
theorem dX12_exchangeCell_56 : decode cX12_exchangeCell 56 = .ok (.invokevirtual 58, 3) := by decide +kernel
theorem dX12_exchangeCell_59 : decode cX12_exchangeCell 59 = .ok (.return_, 1) := by decide +kernel
theorem dX12_init_0 : decode cX12_init 0 = .ok (.aload_n 0, 1) := by decide +kernel
theorem dX12_init_1 : decode cX12_init 1 = .ok (.invokespecial 87, 3) := by decide +kernel
theorem dX12_init_4 : decode cX12_init 4 = .ok (.aload_n 0, 1) := by decide +kernel
theorem dX12_init_5 : decode cX12_init 5 = .ok (.ldc 93, 2) := by decide +kernel
theorem dX12_init_7 : decode cX12_init 7 = .ok (.newarray .int, 2) := by decide +kernel
theorem dX12_init_9 : decode cX12_init 9 = .ok (.putfield 8, 3) := by decide +kernel
theorem dX12_init_12 : decode cX12_init 12 = .ok (.aload_n 0, 1) := by decide +kernel
theorem dX12_init_13 : decode cX12_init 13 = .ok (.sipush 4250, 3) := by decide +kernel
theorem dX12_init_16 : decode cX12_init 16 = .ok (.newarray .int, 2) := by decide +kernel
theorem dX12_init_18 : decode cX12_init 18 = .ok (.putfield 18, 3) := by decide +kernel
theorem dX12_init_21 : decode cX12_init 21 = .ok (.aload_n 0, 1) := by decide +kernel
theorem dX12_init_22 : decode cX12_init 22 = .ok (.sipush 4250, 3) := by decide +kernel
theorem dX12_init_25 : decode cX12_init 25 = .ok (.newarray .boolean, 2) := by decide +kernel
theorem dX12_init_27 : decode cX12_init 27 = .ok (.putfield 4, 3) := by decide +kernel
theorem dX12_init_30 : decode cX12_init 30 = .ok (.aload_n 0, 1) := by decide +kernel
theorem dX12_init_31 : decode cX12_init 31 = .ok (.sipush 4000, 3) := by decide +kernel
theorem dX12_init_34 : decode cX12_init 34 = .ok (.newarray .byte, 2) := by decide +kernel
theorem dX12_init_36 : decode cX12_init 36 = .ok (.putfield 94, 3) := by decide +kernel
theorem dX12_init_39 : decode cX12_init 39 = .ok (.aload_n 0, 1) := by decide +kernel
theorem dX12_init_40 : decode cX12_init 40 = .ok (.iconst (-1), 1) := by decide +kernel
theorem dX12_init_41 : decode cX12_init 41 = .ok (.putfield 98, 3) := by decide +kernel
theorem dX12_init_44 : decode cX12_init 44 = .ok (.aload_n 0, 1) := by decide +kernel
theorem dX12_init_45 : decode cX12_init 45 = .ok (.sipush 4001, 3) := by decide +kernel
theorem dX12_init_48 : decode cX12_init 48 = .ok (.newarray .int, 2) := by decide +kernel
theorem dX12_init_50 : decode cX12_init 50 = .ok (.putfield 102, 3) := by decide +kernel
theorem dX12_init_53 : decode cX12_init 53 = .ok (.aload_n 0, 1) := by decide +kernel
theorem dX12_init_54 : decode cX12_init 54 = .ok (.sipush 4001, 3) := by decide +kernel
theorem dX12_init_57 : decode cX12_init 57 = .ok (.newarray .int, 2) := by decide +kernel
theorem dX12_init_59 : decode cX12_init 59 = .ok (.putfield 105, 3) := by decide +kernel
theorem dX12_init_62 : decode cX12_init 62 = .ok (.aload_n 0, 1) := by decide +kernel
theorem dX12_init_63 : decode cX12_init 63 = .ok (.sipush 4001, 3) := by decide +kernel
theorem dX12_init_66 : decode cX12_init 66 = .ok (.newarray .int, 2) := by decide +kernel
theorem dX12_init_68 : decode cX12_init 68 = .ok (.putfield 108, 3) := by decide +kernel
theorem dX12_init_71 : decode cX12_init 71 = .ok (.aload_n 0, 1) := by decide +kernel
theorem dX12_init_72 : decode cX12_init 72 = .ok (.sipush 16100, 3) := by decide +kernel
theorem dX12_init_75 : decode cX12_init 75 = .ok (.newarray .int, 2) := by decide +kernel
theorem dX12_init_77 : decode cX12_init 77 = .ok (.putfield 111, 3) := by decide +kernel
theorem dX12_init_80 : decode cX12_init 80 = .ok (.aload_n 0, 1) := by decide +kernel
theorem dX12_init_81 : decode cX12_init 81 = .ok (.iconst 2, 1) := by decide +kernel
theorem dX12_init_82 : decode cX12_init 82 = .ok (.newarray .int, 2) := by decide +kernel
theorem dX12_init_84 : decode cX12_init 84 = .ok (.putfield 114, 3) := by decide +kernel
theorem dX12_init_87 : decode cX12_init 87 = .ok (.aload_n 0, 1) := by decide +kernel
theorem dX12_init_88 : decode cX12_init 88 = .ok (.iconst 2, 1) := by decide +kernel
theorem dX12_init_89 : decode cX12_init 89 = .ok (.newarray .int, 2) := by decide +kernel
theorem dX12_init_91 : decode cX12_init 91 = .ok (.putfield 117, 3) := by decide +kernel
theorem dX12_init_94 : decode cX12_init 94 = .ok (.aload_n 0, 1) := by decide +kernel
theorem dX12_init_95 : decode cX12_init 95 = .ok (.iconst 2, 1) := by decide +kernel
theorem dX12_init_96 : decode cX12_init 96 = .ok (.newarray .int, 2) := by decide +kernel
theorem dX12_init_98 : decode cX12_init 98 = .ok (.putfield 120, 3) := by decide +kernel
theorem dX12_init_101 : decode cX12_init 101 = .ok (.aload_n 0, 1) := by decide +kernel
theorem dX12_init_102 : decode cX12_init 102 = .ok (.iconst 2, 1) := by decide +kernel
theorem dX12_init_103 : decode cX12_init 103 = .ok (.newarray .int, 2) := by decide +kernel
theorem dX12_init_105 : decode cX12_init 105 = .ok (.putfield 123, 3) := by decide +kernel
theorem dX12_init_108 : decode cX12_init 108 = .ok (.aload_n 0, 1) := by decide +kernel
theorem dX12_init_109 : decode cX12_init 109 = .ok (.sipush 800, 3) := by decide +kernel
theorem dX12_init_112 : decode cX12_init 112 = .ok (.newarray .long, 2) := by decide +kernel
theorem dX12_init_114 : decode cX12_init 114 = .ok (.putfield 126, 3) := by decide +kernel
theorem dX12_init_117 : decode cX12_init 117 = .ok (.aload_n 0, 1) := by decide +kernel
theorem dX12_init_118 : decode cX12_init 118 = .ok (.sipush 800, 3) := by decide +kernel
theorem dX12_init_121 : decode cX12_init 121 = .ok (.newarray .long, 2) := by decide +kernel
theorem dX12_init_123 : decode cX12_init 123 = .ok (.putfield 130, 3) := by decide +kernel
theorem dX12_init_126 : decode cX12_init 126 = .ok (.aload_n 0, 1) := by decide +kernel
theorem dX12_init_127 : decode cX12_init 127 = .ok (.sipush 800, 3) := by decide +kernel
theorem dX12_init_130 : decode cX12_init 130 = .ok (.newarray .long, 2) := by decide +kernel
theorem dX12_init_132 : decode cX12_init 132 = .ok (.putfield 133, 3) := by decide +kernel
theorem dX12_init_135 : decode cX12_init 135 = .ok (.aload_n 0, 1) := by decide +kernel
theorem dX12_init_136 : decode cX12_init 136 = .ok (.sipush 800, 3) := by decide +kernel
theorem dX12_init_139 : decode cX12_init 139 = .ok (.newarray .int, 2) := by decide +kernel
theorem dX12_init_141 : decode cX12_init 141 = .ok (.putfield 136, 3) := by decide +kernel
theorem dX12_init_144 : decode cX12_init 144 = .ok (.aload_n 0, 1) := by decide +kernel
theorem dX12_init_145 : decode cX12_init 145 = .ok (.sipush 800, 3) := by decide +kernel
theorem dX12_init_148 : decode cX12_init 148 = .ok (.newarray .int, 2) := by decide +kernel
theorem dX12_init_150 : decode cX12_init 150 = .ok (.putfield 139, 3) := by decide +kernel
theorem dX12_init_153 : decode cX12_init 153 = .ok (.aload_n 0, 1) := by decide +kernel
theorem dX12_init_154 : decode cX12_init 154 = .ok (.sipush 16000, 3) := by decide +kernel
theorem dX12_init_157 : decode cX12_init 157 = .ok (.newarray .int, 2) := by decide +kernel
theorem dX12_init_159 : decode cX12_init 159 = .ok (.putfield 142, 3) := by decide +kernel
theorem dX12_init_162 : decode cX12_init 162 = .ok (.aload_n 0, 1) := by decide +kernel
theorem dX12_init_163 : decode cX12_init 163 = .ok (.sipush 16000, 3) := by decide +kernel
theorem dX12_init_166 : decode cX12_init 166 = .ok (.newarray .int, 2) := by decide +kernel
theorem dX12_init_168 : decode cX12_init 168 = .ok (.putfield 145, 3) := by decide +kernel
theorem dX12_init_171 : decode cX12_init 171 = .ok (.aload_n 0, 1) := by decide +kernel
theorem dX12_init_172 : decode cX12_init 172 = .ok (.iconst 2, 1) := by decide +kernel
theorem dX12_init_173 : decode cX12_init 173 = .ok (.newarray .int, 2) := by decide +kernel
theorem dX12_init_175 : decode cX12_init 175 = .ok (.putfield 148, 3) := by decide +kernel
theorem dX12_init_178 : decode cX12_init 178 = .ok (.aload_n 0, 1) := by decide +kernel
theorem dX12_init_179 : decode cX12_init 179 = .ok (.iconst 2, 1) := by decide +kernel
theorem dX12_init_180 : decode cX12_init 180 = .ok (.newarray .long, 2) := by decide +kernel
theorem dX12_init_182 : decode cX12_init 182 = .ok (.putfield 151, 3) := by decide +kernel
theorem dX12_init_185 : decode cX12_init 185 = .ok (.aload_n 0, 1) := by decide +kernel
theorem dX12_init_186 : decode cX12_init 186 = .ok (.iconst 4, 1) := by decide +kernel
theorem dX12_init_187 : decode cX12_init 187 = .ok (.newarray .int, 2) := by decide +kernel
theorem dX12_init_189 : decode cX12_init 189 = .ok (.putfield 154, 3) := by decide +kernel
theorem dX12_init_192 : decode cX12_init 192 = .ok (.aload_n 0, 1) := by decide +kernel
theorem dX12_init_193 : decode cX12_init 193 = .ok (.bipush 40, 2) := by decide +kernel
theorem dX12_init_195 : decode cX12_init 195 = .ok (.newarray .int, 2) := by decide +kernel
theorem dX12_init_197 : decode cX12_init 197 = .ok (.putfield 157, 3) := by decide +kernel
theorem dX12_init_200 : decode cX12_init 200 = .ok (.aload_n 0, 1) := by decide +kernel
theorem dX12_init_201 : decode cX12_init 201 = .ok (.bipush 40, 2) := by decide +kernel
theorem dX12_init_203 : decode cX12_init 203 = .ok (.newarray .int, 2) := by decide +kernel
theorem dX12_init_205 : decode cX12_init 205 = .ok (.putfield 160, 3) := by decide +kernel
theorem dX12_init_208 : decode cX12_init 208 = .ok (.aload_n 0, 1) := by decide +kernel
theorem dX12_init_209 : decode cX12_init 209 = .ok (.bipush 40, 2) := by decide +kernel
theorem dX12_init_211 : decode cX12_init 211 = .ok (.newarray .int, 2) := by decide +kernel
theorem dX12_init_213 : decode cX12_init 213 = .ok (.putfield 163, 3) := by decide +kernel
theorem dX12_init_216 : decode cX12_init 216 = .ok (.aload_n 0, 1) := by decide +kernel
theorem dX12_init_217 : decode cX12_init 217 = .ok (.sipush 800, 3) := by decide +kernel
theorem dX12_init_220 : decode cX12_init 220 = .ok (.newarray .int, 2) := by decide +kernel
theorem dX12_init_222 : decode cX12_init 222 = .ok (.putfield 166, 3) := by decide +kernel
theorem dX12_init_225 : decode cX12_init 225 = .ok (.aload_n 0, 1) := by decide +kernel
theorem dX12_init_226 : decode cX12_init 226 = .ok (.sipush 800, 3) := by decide +kernel
theorem dX12_init_229 : decode cX12_init 229 = .ok (.newarray .int, 2) := by decide +kernel
theorem dX12_init_231 : decode cX12_init 231 = .ok (.putfield 169, 3) := by decide +kernel
theorem dX12_init_234 : decode cX12_init 234 = .ok (.aload_n 0, 1) := by decide +kernel
theorem dX12_init_235 : decode cX12_init 235 = .ok (.iconst 1, 1) := by decide +kernel
theorem dX12_init_236 : decode cX12_init 236 = .ok (.putfield 172, 3) := by decide +kernel
theorem dX12_init_239 : decode cX12_init 239 = .ok (.aload_n 0, 1) := by decide +kernel
theorem dX12_init_240 : decode cX12_init 240 = .ok (.bipush 24, 2) := by decide +kernel
theorem dX12_init_242 : decode cX12_init 242 = .ok (.newarray .int, 2) := by decide +kernel
theorem dX12_init_244 : decode cX12_init 244 = .ok (.putfield 175, 3) := by decide +kernel
theorem dX12_init_247 : decode cX12_init 247 = .ok (.aload_n 0, 1) := by decide +kernel
theorem dX12_init_248 : decode cX12_init 248 = .ok (.bipush 24, 2) := by decide +kernel
theorem dX12_init_250 : decode cX12_init 250 = .ok (.newarray .int, 2) := by decide +kernel
theorem dX12_init_252 : decode cX12_init 252 = .ok (.putfield 178, 3) := by decide +kernel
theorem dX12_init_255 : decode cX12_init 255 = .ok (.aload_n 0, 1) := by decide +kernel
theorem dX12_init_256 : decode cX12_init 256 = .ok (.bipush 24, 2) := by decide +kernel
theorem dX12_init_258 : decode cX12_init 258 = .ok (.newarray .int, 2) := by decide +kernel
theorem dX12_init_260 : decode cX12_init 260 = .ok (.putfield 181, 3) := by decide +kernel
theorem dX12_init_263 : decode cX12_init 263 = .ok (.aload_n 0, 1) := by decide +kernel
theorem dX12_init_264 : decode cX12_init 264 = .ok (.bipush 24, 2) := by decide +kernel
theorem dX12_init_266 : decode cX12_init 266 = .ok (.newarray .int, 2) := by decide +kernel
theorem dX12_init_268 : decode cX12_init 268 = .ok (.putfield 184, 3) := by decide +kernel
theorem dX12_init_271 : decode cX12_init 271 = .ok (.aload_n 0, 1) := by decide +kernel
theorem dX12_init_272 : decode cX12_init 272 = .ok (.bipush 24, 2) := by decide +kernel
theorem dX12_init_274 : decode cX12_init 274 = .ok (.newarray .long, 2) := by decide +kernel
theorem dX12_init_276 : decode cX12_init 276 = .ok (.putfield 187, 3) := by decide +kernel
theorem dX12_init_279 : decode cX12_init 279 = .ok (.aload_n 0, 1) := by decide +kernel
theorem dX12_init_280 : decode cX12_init 280 = .ok (.bipush 24, 2) := by decide +kernel
theorem dX12_init_282 : decode cX12_init 282 = .ok (.newarray .long, 2) := by decide +kernel
theorem dX12_init_284 : decode cX12_init 284 = .ok (.putfield 190, 3) := by decide +kernel
theorem dX12_init_287 : decode cX12_init 287 = .ok (.aload_n 0, 1) := by decide +kernel
theorem dX12_init_288 : decode cX12_init 288 = .ok (.sipush 216, 3) := by decide +kernel
theorem dX12_init_291 : decode cX12_init 291 = .ok (.newarray .long, 2) := by decide +kernel
theorem dX12_init_293 : decode cX12_init 293 = .ok (.putfield 193, 3) := by decide +kernel
theorem dX12_init_296 : decode cX12_init 296 = .ok (.aload_n 0, 1) := by decide +kernel
theorem dX12_init_297 : decode cX12_init 297 = .ok (.sipush 216, 3) := by decide +kernel
theorem dX12_init_300 : decode cX12_init 300 = .ok (.newarray .long, 2) := by decide +kernel
theorem dX12_init_302 : decode cX12_init 302 = .ok (.putfield 196, 3) := by decide +kernel
theorem dX12_init_305 : decode cX12_init 305 = .ok (.aload_n 0, 1) := by decide +kernel
theorem dX12_init_306 : decode cX12_init 306 = .ok (.bipush 80, 2) := by decide +kernel
theorem dX12_init_308 : decode cX12_init 308 = .ok (.newarray .int, 2) := by decide +kernel
theorem dX12_init_310 : decode cX12_init 310 = .ok (.putfield 199, 3) := by decide +kernel
theorem dX12_init_313 : decode cX12_init 313 = .ok (.aload_n 0, 1) := by decide +kernel
theorem dX12_init_314 : decode cX12_init 314 = .ok (.bipush 80, 2) := by decide +kernel
theorem dX12_init_316 : decode cX12_init 316 = .ok (.newarray .int, 2) := by decide +kernel
theorem dX12_init_318 : decode cX12_init 318 = .ok (.putfield 202, 3) := by decide +kernel
theorem dX12_init_321 : decode cX12_init 321 = .ok (.aload_n 0, 1) := by decide +kernel
theorem dX12_init_322 : decode cX12_init 322 = .ok (.iconst 4, 1) := by decide +kernel
theorem dX12_init_323 : decode cX12_init 323 = .ok (.newarray .boolean, 2) := by decide +kernel
theorem dX12_init_325 : decode cX12_init 325 = .ok (.putfield 205, 3) := by decide +kernel
theorem dX12_init_328 : decode cX12_init 328 = .ok (.aload_n 0, 1) := by decide +kernel
theorem dX12_init_329 : decode cX12_init 329 = .ok (.bipush 20, 2) := by decide +kernel
theorem dX12_init_331 : decode cX12_init 331 = .ok (.newarray .int, 2) := by decide +kernel
theorem dX12_init_333 : decode cX12_init 333 = .ok (.putfield 208, 3) := by decide +kernel
theorem dX12_init_336 : decode cX12_init 336 = .ok (.aload_n 0, 1) := by decide +kernel
theorem dX12_init_337 : decode cX12_init 337 = .ok (.bipush 20, 2) := by decide +kernel
theorem dX12_init_339 : decode cX12_init 339 = .ok (.newarray .int, 2) := by decide +kernel
theorem dX12_init_341 : decode cX12_init 341 = .ok (.putfield 211, 3) := by decide +kernel
theorem dX12_init_344 : decode cX12_init 344 = .ok (.aload_n 0, 1) := by decide +kernel
theorem dX12_init_345 : decode cX12_init 345 = .ok (.bipush 65, 2) := by decide +kernel
theorem dX12_init_347 : decode cX12_init 347 = .ok (.newarray .int, 2) := by decide +kernel
theorem dX12_init_349 : decode cX12_init 349 = .ok (.putfield 214, 3) := by decide +kernel
theorem dX12_init_352 : decode cX12_init 352 = .ok (.aload_n 0, 1) := by decide +kernel
theorem dX12_init_353 : decode cX12_init 353 = .ok (.bipush 65, 2) := by decide +kernel
theorem dX12_init_355 : decode cX12_init 355 = .ok (.newarray .int, 2) := by decide +kernel
theorem dX12_init_357 : decode cX12_init 357 = .ok (.putfield 217, 3) := by decide +kernel
theorem dX12_init_360 : decode cX12_init 360 = .ok (.aload_n 0, 1) := by decide +kernel
theorem dX12_init_361 : decode cX12_init 361 = .ok (.sipush 2000, 3) := by decide +kernel
theorem dX12_init_364 : decode cX12_init 364 = .ok (.newarray .int, 2) := by decide +kernel
theorem dX12_init_366 : decode cX12_init 366 = .ok (.putfield 220, 3) := by decide +kernel
theorem dX12_init_369 : decode cX12_init 369 = .ok (.return_, 1) := by decide +kernel
theorem dX12_type_0 : decode cX12_type 0 = .ok (.aload_n 0, 1) := by decide +kernel
theorem dX12_type_1 : decode cX12_type 1 = .ok (.iconst 0, 1) := by decide +kernel
theorem dX12_type_2 : decode cX12_type 2 = .ok (.putfield 223, 3) := by decide +kernel
theorem dX12_type_5 : decode cX12_type 5 = .ok (.iload_n 3, 1) := by decide +kernel
theorem dX12_type_6 : decode cX12_type 6 = .ok (.iconst 1, 1) := by decide +kernel
theorem dX12_type_7 : decode cX12_type 7 = .ok (.if_icmp .lt 25, 3) := by decide +kernel
theorem dX12_type_10 : decode cX12_type 10 = .ok (.iload_n 3, 1) := by decide +kernel
theorem dX12_type_11 : decode cX12_type 11 = .ok (.bipush 8, 2) := by decide +kernel
theorem dX12_type_13 : decode cX12_type 13 = .ok (.if_icmp .gt 19, 3) := by decide +kernel
theorem dX12_type_16 : decode cX12_type 16 = .ok (.aload_n 0, 1) := by decide +kernel
theorem dX12_type_17 : decode cX12_type 17 = .ok (.getfield 226, 3) := by decide +kernel
theorem dX12_type_20 : decode cX12_type 20 = .ok (.iload_n 3, 1) := by decide +kernel
theorem dX12_type_21 : decode cX12_type 21 = .ok (.iadd, 1) := by decide +kernel
theorem dX12_type_22 : decode cX12_type 22 = .ok (.sipush 4000, 3) := by decide +kernel
theorem dX12_type_25 : decode cX12_type 25 = .ok (.if_icmp .gt 7, 3) := by decide +kernel
theorem dX12_type_28 : decode cX12_type 28 = .ok (.iconst 1, 1) := by decide +kernel
theorem dX12_type_29 : decode cX12_type 29 = .ok (.goto 4, 3) := by decide +kernel
theorem dX12_type_32 : decode cX12_type 32 = .ok (.iconst 0, 1) := by decide +kernel
theorem dX12_type_33 : decode cX12_type 33 = .ok (.istore 4, 2) := by decide +kernel
theorem dX12_type_35 : decode cX12_type 35 = .ok (.iconst 0, 1) := by decide +kernel
theorem dX12_type_36 : decode cX12_type 36 = .ok (.istore 5, 2) := by decide +kernel
theorem dX12_type_38 : decode cX12_type 38 = .ok (.iload 4, 2) := by decide +kernel
theorem dX12_type_40 : decode cX12_type 40 = .ok (.ifCond .eq 53, 3) := by decide +kernel
theorem dX12_type_43 : decode cX12_type 43 = .ok (.iload 5, 2) := by decide +kernel
theorem dX12_type_45 : decode cX12_type 45 = .ok (.iload_n 3, 1) := by decide +kernel
theorem dX12_type_46 : decode cX12_type 46 = .ok (.if_icmp .ge 47, 3) := by decide +kernel
theorem dX12_type_49 : decode cX12_type 49 = .ok (.lload_n 1, 1) := by decide +kernel
theorem dX12_type_50 : decode cX12_type 50 = .ok (.bipush 8, 2) := by decide +kernel
theorem dX12_type_52 : decode cX12_type 52 = .ok (.iload 5, 2) := by decide +kernel
theorem dX12_type_54 : decode cX12_type 54 = .ok (.imul, 1) := by decide +kernel
theorem dX12_type_55 : decode cX12_type 55 = .ok (.lshr, 1) := by decide +kernel
theorem dX12_type_56 : decode cX12_type 56 = .ok (.ldc2_w 229, 3) := by decide +kernel
theorem dX12_type_59 : decode cX12_type 59 = .ok (.land, 1) := by decide +kernel
theorem dX12_type_60 : decode cX12_type 60 = .ok (.lstore 6, 2) := by decide +kernel
theorem dX12_type_62 : decode cX12_type 62 = .ok (.lload 6, 2) := by decide +kernel
theorem dX12_type_64 : decode cX12_type 64 = .ok (.ldc2_w 231, 3) := by decide +kernel
theorem dX12_type_67 : decode cX12_type 67 = .ok (.lcmp, 1) := by decide +kernel
theorem dX12_type_68 : decode cX12_type 68 = .ok (.ifCond .lt 16, 3) := by decide +kernel
theorem dX12_type_71 : decode cX12_type 71 = .ok (.lload 6, 2) := by decide +kernel
theorem dX12_type_73 : decode cX12_type 73 = .ok (.ldc2_w 233, 3) := by decide +kernel
theorem dX12_type_76 : decode cX12_type 76 = .ok (.lcmp, 1) := by decide +kernel
theorem dX12_type_77 : decode cX12_type 77 = .ok (.ifCond .gt 7, 3) := by decide +kernel
theorem dX12_type_80 : decode cX12_type 80 = .ok (.iconst 1, 1) := by decide +kernel
theorem dX12_type_81 : decode cX12_type 81 = .ok (.goto 4, 3) := by decide +kernel
theorem dX12_type_84 : decode cX12_type 84 = .ok (.iconst 0, 1) := by decide +kernel
theorem dX12_type_85 : decode cX12_type 85 = .ok (.istore 4, 2) := by decide +kernel
theorem dX12_type_87 : decode cX12_type 87 = .ok (.iinc 5 1, 3) := by decide +kernel
theorem dX12_type_90 : decode cX12_type 90 = .ok (.goto (-52), 3) := by decide +kernel
theorem dX12_type_93 : decode cX12_type 93 = .ok (.iload 4, 2) := by decide +kernel
theorem dX12_type_95 : decode cX12_type 95 = .ok (.ifCond .ne 5, 3) := by decide +kernel
theorem dX12_type_98 : decode cX12_type 98 = .ok (.iconst (-1), 1) := by decide +kernel
theorem dX12_type_99 : decode cX12_type 99 = .ok (.ireturn, 1) := by decide +kernel
theorem dX12_type_100 : decode cX12_type 100 = .ok (.iload_n 3, 1) := by decide +kernel
theorem dX12_type_101 : decode cX12_type 101 = .ok (.iconst 1, 1) := by decide +kernel
theorem dX12_type_102 : decode cX12_type 102 = .ok (.isub, 1) := by decide +kernel
theorem dX12_type_103 : decode cX12_type 103 = .ok (.istore 5, 2) := by decide +kernel
theorem dX12_type_105 : decode cX12_type 105 = .ok (.iload 5, 2) := by decide +kernel
theorem dX12_type_107 : decode cX12_type 107 = .ok (.ifCond .lt 41, 3) := by decide +kernel
theorem dX12_type_110 : decode cX12_type 110 = .ok (.aload_n 0, 1) := by decide +kernel
theorem dX12_type_111 : decode cX12_type 111 = .ok (.getfield 94, 3) := by decide +kernel
theorem dX12_type_114 : decode cX12_type 114 = .ok (.aload_n 0, 1) := by decide +kernel
theorem dX12_type_115 : decode cX12_type 115 = .ok (.getfield 226, 3) := by decide +kernel
theorem dX12_type_118 : decode cX12_type 118 = .ok (.lload_n 1, 1) := by decide +kernel
theorem dX12_type_119 : decode cX12_type 119 = .ok (.bipush 8, 2) := by decide +kernel
theorem dX12_type_121 : decode cX12_type 121 = .ok (.iload 5, 2) := by decide +kernel
theorem dX12_type_123 : decode cX12_type 123 = .ok (.imul, 1) := by decide +kernel
theorem dX12_type_124 : decode cX12_type 124 = .ok (.lshr, 1) := by decide +kernel
theorem dX12_type_125 : decode cX12_type 125 = .ok (.ldc2_w 229, 3) := by decide +kernel
theorem dX12_type_128 : decode cX12_type 128 = .ok (.land, 1) := by decide +kernel
theorem dX12_type_129 : decode cX12_type 129 = .ok (.l2i, 1) := by decide +kernel
theorem dX12_type_130 : decode cX12_type 130 = .ok (.i2b, 1) := by decide +kernel
theorem dX12_type_131 : decode cX12_type 131 = .ok (.bastore, 1) := by decide +kernel
theorem dX12_type_132 : decode cX12_type 132 = .ok (.aload_n 0, 1) := by decide +kernel
theorem dX12_type_133 : decode cX12_type 133 = .ok (.dup, 1) := by decide +kernel
theorem dX12_type_134 : decode cX12_type 134 = .ok (.getfield 226, 3) := by decide +kernel
theorem dX12_type_137 : decode cX12_type 137 = .ok (.iconst 1, 1) := by decide +kernel
theorem dX12_type_138 : decode cX12_type 138 = .ok (.iadd, 1) := by decide +kernel
theorem dX12_type_139 : decode cX12_type 139 = .ok (.putfield 226, 3) := by decide +kernel
theorem dX12_type_142 : decode cX12_type 142 = .ok (.iinc 5 (-1), 3) := by decide +kernel
theorem dX12_type_145 : decode cX12_type 145 = .ok (.goto (-40), 3) := by decide +kernel
theorem dX12_type_148 : decode cX12_type 148 = .ok (.aload_n 0, 1) := by decide +kernel
theorem dX12_type_149 : decode cX12_type 149 = .ok (.getfield 226, 3) := by decide +kernel
theorem dX12_type_152 : decode cX12_type 152 = .ok (.ireturn, 1) := by decide +kernel
theorem dX12_isDigit_0 : decode cX12_isDigit 0 = .ok (.iload_n 0, 1) := by decide +kernel
theorem dX12_isDigit_1 : decode cX12_isDigit 1 = .ok (.bipush 48, 2) := by decide +kernel
theorem dX12_isDigit_3 : decode cX12_isDigit 3 = .ok (.if_icmp .lt 13, 3) := by decide +kernel
theorem dX12_isDigit_6 : decode cX12_isDigit 6 = .ok (.iload_n 0, 1) := by decide +kernel
theorem dX12_isDigit_7 : decode cX12_isDigit 7 = .ok (.bipush 57, 2) := by decide +kernel
theorem dX12_isDigit_9 : decode cX12_isDigit 9 = .ok (.if_icmp .gt 7, 3) := by decide +kernel
theorem dX12_isDigit_12 : decode cX12_isDigit 12 = .ok (.iconst 1, 1) := by decide +kernel
theorem dX12_isDigit_13 : decode cX12_isDigit 13 = .ok (.goto 4, 3) := by decide +kernel
theorem dX12_isDigit_16 : decode cX12_isDigit 16 = .ok (.iconst 0, 1) := by decide +kernel
theorem dX12_isDigit_17 : decode cX12_isDigit 17 = .ok (.ireturn, 1) := by decide +kernel
theorem dX12_isSign_0 : decode cX12_isSign 0 = .ok (.iload_n 0, 1) := by decide +kernel
theorem dX12_isSign_1 : decode cX12_isSign 1 = .ok (.bipush 65, 2) := by decide +kernel
theorem dX12_isSign_3 : decode cX12_isSign 3 = .ok (.if_icmp .eq 63, 3) := by decide +kernel
theorem dX12_isSign_6 : decode cX12_isSign 6 = .ok (.iload_n 0, 1) := by decide +kernel
theorem dX12_isSign_7 : decode cX12_isSign 7 = .ok (.bipush 66, 2) := by decide +kernel
theorem dX12_isSign_9 : decode cX12_isSign 9 = .ok (.if_icmp .eq 57, 3) := by decide +kernel
theorem dX12_isSign_12 : decode cX12_isSign 12 = .ok (.iload_n 0, 1) := by decide +kernel
theorem dX12_isSign_13 : decode cX12_isSign 13 = .ok (.bipush 63, 2) := by decide +kernel
theorem dX12_isSign_15 : decode cX12_isSign 15 = .ok (.if_icmp .eq 51, 3) := by decide +kernel
theorem dX12_isSign_18 : decode cX12_isSign 18 = .ok (.iload_n 0, 1) := by decide +kernel
theorem dX12_isSign_19 : decode cX12_isSign 19 = .ok (.bipush 40, 2) := by decide +kernel
theorem dX12_isSign_21 : decode cX12_isSign 21 = .ok (.if_icmp .eq 45, 3) := by decide +kernel
theorem dX12_isSign_24 : decode cX12_isSign 24 = .ok (.iload_n 0, 1) := by decide +kernel
theorem dX12_isSign_25 : decode cX12_isSign 25 = .ok (.bipush 41, 2) := by decide +kernel
theorem dX12_isSign_27 : decode cX12_isSign 27 = .ok (.if_icmp .eq 39, 3) := by decide +kernel
theorem dX12_isSign_30 : decode cX12_isSign 30 = .ok (.iload_n 0, 1) := by decide +kernel
theorem dX12_isSign_31 : decode cX12_isSign 31 = .ok (.bipush 91, 2) := by decide +kernel
theorem dX12_isSign_33 : decode cX12_isSign 33 = .ok (.if_icmp .eq 33, 3) := by decide +kernel
theorem dX12_isSign_36 : decode cX12_isSign 36 = .ok (.iload_n 0, 1) := by decide +kernel
theorem dX12_isSign_37 : decode cX12_isSign 37 = .ok (.bipush 93, 2) := by decide +kernel
theorem dX12_isSign_39 : decode cX12_isSign 39 = .ok (.if_icmp .eq 27, 3) := by decide +kernel
theorem dX12_isSign_42 : decode cX12_isSign 42 = .ok (.iload_n 0, 1) := by decide +kernel
theorem dX12_isSign_43 : decode cX12_isSign 43 = .ok (.bipush 58, 2) := by decide +kernel
theorem dX12_isSign_45 : decode cX12_isSign 45 = .ok (.if_icmp .eq 21, 3) := by decide +kernel
theorem dX12_isSign_48 : decode cX12_isSign 48 = .ok (.iload_n 0, 1) := by decide +kernel
theorem dX12_isSign_49 : decode cX12_isSign 49 = .ok (.bipush 44, 2) := by decide +kernel
theorem dX12_isSign_51 : decode cX12_isSign 51 = .ok (.if_icmp .eq 15, 3) := by decide +kernel
theorem dX12_isSign_54 : decode cX12_isSign 54 = .ok (.iload_n 0, 1) := by decide +kernel
theorem dX12_isSign_55 : decode cX12_isSign 55 = .ok (.bipush 45, 2) := by decide +kernel
theorem dX12_isSign_57 : decode cX12_isSign 57 = .ok (.if_icmp .eq 9, 3) := by decide +kernel
theorem dX12_isSign_60 : decode cX12_isSign 60 = .ok (.iload_n 0, 1) := by decide +kernel
theorem dX12_isSign_61 : decode cX12_isSign 61 = .ok (.bipush 47, 2) := by decide +kernel
theorem dX12_isSign_63 : decode cX12_isSign 63 = .ok (.if_icmp .ne 7, 3) := by decide +kernel
theorem dX12_isSign_66 : decode cX12_isSign 66 = .ok (.iconst 1, 1) := by decide +kernel
theorem dX12_isSign_67 : decode cX12_isSign 67 = .ok (.goto 4, 3) := by decide +kernel
theorem dX12_isSign_70 : decode cX12_isSign 70 = .ok (.iconst 0, 1) := by decide +kernel
theorem dX12_isSign_71 : decode cX12_isSign 71 = .ok (.ireturn, 1) := by decide +kernel
set_option maxRecDepth 20000 in
theorem ggX12_cut_X12_isSign : GoodIn wsX12_cut wsX12_isSign := goodIn_r _ [10] rfl (by decide +kernel)
set_option maxRecDepth 20000 in
theorem gX12_cut_X12_isSign : GoodIn wsX12_cut (va_wsS RX12 238 yX12_isSign wsX12_isSign) := goodIn_app (goodIn_r _ [7, 8, 9] rfl (by decide +kernel)) ggX12_cut_X12_isSign
set_option maxRecDepth 20000 in
theorem ggX12_cut_X12_isDigit : GoodIn wsX12_cut wsX12_isDigit := goodIn_r _ [13] rfl (by decide +kernel)
