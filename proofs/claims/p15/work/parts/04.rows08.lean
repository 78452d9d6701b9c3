set_option maxRecDepth 20000 in
theorem ggX8_setUp_X8_setUpSetsOfA : GoodIn wsX8_setUp wsX8_setUpSetsOfA := goodIn_s _ [(67, 1), (5, 1), (4, 1), (55, 2), (62, 1), (7, 1), (63, 1), (28, 3), (23, 1), (31, 10), (83, 24)] rfl (by decide +kernel)
set_option maxRecDepth 20000 in
theorem gX8_setUp_X8_setUpSetsOfA : GoodIn wsX8_setUp (wsV RX8 134 RX8 yX8_setUpSetsOfA wsX8_setUpSetsOfA) := goodIn_app (goodIn_r _ [64, 65, 66, 23] rfl (by decide +kernel)) ggX8_setUp_X8_setUpSetsOfA
set_option maxRecDepth 20000 in
theorem ggX8_setUp_X8_setUpGoal : GoodIn wsX8_setUp wsX8_setUpGoal := goodIn_s _ [(71, 1), (1, 1), (3, 1), (61, 1), (6, 1), (72, 1), (5, 1), (62, 2), (45, 1), (73, 3), (49, 1), (76, 3), (28, 3), (23, 1), (31, 10), (79, 4), (91, 13), (83, 8), (104, 3)] rfl (by decide +kernel)
set_option maxRecDepth 20000 in
theorem gX8_setUp_X8_setUpGoal : GoodIn wsX8_setUp (wsV RX8 138 RX8 yX8_setUpGoal wsX8_setUpGoal) := goodIn_app (goodIn_r _ [68, 69, 70, 23] rfl (by decide +kernel)) ggX8_setUp_X8_setUpGoal
theorem dX8_setUp_0 : decode cX8_setUp 0 = .ok (.aload_n 0, 1) := by decide +kernel
theorem dX8_setUp_1 : decode cX8_setUp 1 = .ok (.aload_n 1, 1) := by decide +kernel
theorem dX8_setUp_2 : decode cX8_setUp 2 = .ok (.getfield 106, 3) := by decide +kernel
theorem dX8_setUp_5 : decode cX8_setUp 5 = .ok (.iconst 0, 1) := by decide +kernel
theorem dX8_setUp_6 : decode cX8_setUp 6 = .ok (.aaload, 1) := by decide +kernel
theorem dX8_setUp_7 : decode cX8_setUp 7 = .ok (.getfield 112, 3) := by decide +kernel
theorem dX8_setUp_10 : decode cX8_setUp 10 = .ok (.putfield 35, 3) := by decide +kernel
theorem dX8_setUp_13 : decode cX8_setUp 13 = .ok (.aload_n 0, 1) := by decide +kernel
theorem dX8_setUp_14 : decode cX8_setUp 14 = .ok (.aload_n 1, 1) := by decide +kernel
theorem dX8_setUp_15 : decode cX8_setUp 15 = .ok (.getfield 106, 3) := by decide +kernel
theorem dX8_setUp_18 : decode cX8_setUp 18 = .ok (.iconst 1, 1) := by decide +kernel
theorem dX8_setUp_19 : decode cX8_setUp 19 = .ok (.aaload, 1) := by decide +kernel
theorem dX8_setUp_20 : decode cX8_setUp 20 = .ok (.getfield 112, 3) := by decide +kernel
theorem dX8_setUp_23 : decode cX8_setUp 23 = .ok (.putfield 38, 3) := by decide +kernel
theorem dX8_setUp_26 : decode cX8_setUp 26 = .ok (.aload_n 0, 1) := by decide +kernel
theorem dX8_setUp_27 : decode cX8_setUp 27 = .ok (.aload_n 0, 1) := by decide +kernel
theorem dX8_setUp_28 : decode cX8_setUp 28 = .ok (.getfield 38, 3) := by decide +kernel
theorem dX8_setUp_31 : decode cX8_setUp 31 = .ok (.iconst 1, 1) := by decide +kernel
theorem dX8_setUp_32 : decode cX8_setUp 32 = .ok (.isub, 1) := by decide +kernel
theorem dX8_setUp_33 : decode cX8_setUp 33 = .ok (.aload_n 1, 1) := by decide +kernel
theorem dX8_setUp_34 : decode cX8_setUp 34 = .ok (.getfield 106, 3) := by decide +kernel
theorem dX8_setUp_37 : decode cX8_setUp 37 = .ok (.iconst 0, 1) := by decide +kernel
theorem dX8_setUp_38 : decode cX8_setUp 38 = .ok (.aaload, 1) := by decide +kernel
theorem dX8_setUp_39 : decode cX8_setUp 39 = .ok (.getfield 117, 3) := by decide +kernel
theorem dX8_setUp_42 : decode cX8_setUp 42 = .ok (.iadd, 1) := by decide +kernel
theorem dX8_setUp_43 : decode cX8_setUp 43 = .ok (.putfield 28, 3) := by decide +kernel
theorem dX8_setUp_46 : decode cX8_setUp 46 = .ok (.aload_n 0, 1) := by decide +kernel
theorem dX8_setUp_47 : decode cX8_setUp 47 = .ok (.aload_n 0, 1) := by decide +kernel
theorem dX8_setUp_48 : decode cX8_setUp 48 = .ok (.getfield 35, 3) := by decide +kernel
theorem dX8_setUp_51 : decode cX8_setUp 51 = .ok (.iconst 1, 1) := by decide +kernel
theorem dX8_setUp_52 : decode cX8_setUp 52 = .ok (.isub, 1) := by decide +kernel
theorem dX8_setUp_53 : decode cX8_setUp 53 = .ok (.aload_n 1, 1) := by decide +kernel
theorem dX8_setUp_54 : decode cX8_setUp 54 = .ok (.getfield 106, 3) := by decide +kernel
theorem dX8_setUp_57 : decode cX8_setUp 57 = .ok (.iconst 1, 1) := by decide +kernel
theorem dX8_setUp_58 : decode cX8_setUp 58 = .ok (.aaload, 1) := by decide +kernel
theorem dX8_setUp_59 : decode cX8_setUp 59 = .ok (.getfield 117, 3) := by decide +kernel
theorem dX8_setUp_62 : decode cX8_setUp 62 = .ok (.iadd, 1) := by decide +kernel
theorem dX8_setUp_63 : decode cX8_setUp 63 = .ok (.putfield 32, 3) := by decide +kernel
theorem dX8_setUp_66 : decode cX8_setUp 66 = .ok (.aload_n 1, 1) := by decide +kernel
theorem dX8_setUp_67 : decode cX8_setUp 67 = .ok (.invokevirtual 120, 3) := by decide +kernel
theorem dX8_setUp_70 : decode cX8_setUp 70 = .ok (.lconst 1, 1) := by decide +kernel
theorem dX8_setUp_71 : decode cX8_setUp 71 = .ok (.ladd, 1) := by decide +kernel
theorem dX8_setUp_72 : decode cX8_setUp 72 = .ok (.lstore_n 2, 1) := by decide +kernel
theorem dX8_setUp_73 : decode cX8_setUp 73 = .ok (.aload_n 0, 1) := by decide +kernel
theorem dX8_setUp_74 : decode cX8_setUp 74 = .ok (.invokevirtual 124, 3) := by decide +kernel
theorem dX8_setUp_77 : decode cX8_setUp 77 = .ok (.aload_n 0, 1) := by decide +kernel
theorem dX8_setUp_78 : decode cX8_setUp 78 = .ok (.aload_n 1, 1) := by decide +kernel
theorem dX8_setUp_79 : decode cX8_setUp 79 = .ok (.getfield 106, 3) := by decide +kernel
theorem dX8_setUp_82 : decode cX8_setUp 82 = .ok (.iconst 1, 1) := by decide +kernel
theorem dX8_setUp_83 : decode cX8_setUp 83 = .ok (.aaload, 1) := by decide +kernel
theorem dX8_setUp_84 : decode cX8_setUp 84 = .ok (.lload_n 2, 1) := by decide +kernel
theorem dX8_setUp_85 : decode cX8_setUp 85 = .ok (.invokevirtual 127, 3) := by decide +kernel
theorem dX8_setUp_88 : decode cX8_setUp 88 = .ok (.aload_n 0, 1) := by decide +kernel
theorem dX8_setUp_89 : decode cX8_setUp 89 = .ok (.aload_n 1, 1) := by decide +kernel
theorem dX8_setUp_90 : decode cX8_setUp 90 = .ok (.invokevirtual 131, 3) := by decide +kernel
theorem dX8_setUp_93 : decode cX8_setUp 93 = .ok (.aload_n 0, 1) := by decide +kernel
theorem dX8_setUp_94 : decode cX8_setUp 94 = .ok (.aload_n 1, 1) := by decide +kernel
theorem dX8_setUp_95 : decode cX8_setUp 95 = .ok (.getfield 106, 3) := by decide +kernel
theorem dX8_setUp_98 : decode cX8_setUp 98 = .ok (.iconst 0, 1) := by decide +kernel
theorem dX8_setUp_99 : decode cX8_setUp 99 = .ok (.aaload, 1) := by decide +kernel
theorem dX8_setUp_100 : decode cX8_setUp 100 = .ok (.invokevirtual 134, 3) := by decide +kernel
theorem dX8_setUp_103 : decode cX8_setUp 103 = .ok (.aload_n 0, 1) := by decide +kernel
theorem dX8_setUp_104 : decode cX8_setUp 104 = .ok (.aload_n 1, 1) := by decide +kernel
theorem dX8_setUp_105 : decode cX8_setUp 105 = .ok (.lload_n 2, 1) := by decide +kernel
theorem dX8_setUp_106 : decode cX8_setUp 106 = .ok (.invokevirtual 138, 3) := by decide +kernel
theorem dX8_setUp_109 : decode cX8_setUp 109 = .ok (.return_, 1) := by decide +kernel
set_option maxRecDepth 20000 in
theorem ggX8_clear_X8_cell : GoodIn wsX8_clear wsX8_cell := goodIn_s _ [(10, 2), (20, 13)] rfl (by decide +kernel)
set_option maxRecDepth 20000 in
theorem gX8_clear_X8_cell : GoodIn wsX8_clear (wsV RX8 90 RX8 yX8_cell wsX8_cell) := goodIn_app (goodIn_r _ [6, 7, 8, 9] rfl (by decide +kernel)) ggX8_clear_X8_cell
set_option maxRecDepth 20000 in
theorem ggX8_clear_X0_put : GoodIn wsX8_clear wsX0_put := goodIn_s _ [(16, 4), (33, 3)] rfl (by decide +kernel)
set_option maxRecDepth 20000 in
theorem gX8_clear_X0_put : GoodIn wsX8_clear (wsV RX8 82 RX0 yX0_put wsX0_put) := goodIn_app (goodIn_r _ [12, 13, 14, 15] rfl (by decide +kernel)) ggX8_clear_X0_put
theorem dX8_clear_0 : decode cX8_clear 0 = .ok (.iconst 0, 1) := by decide +kernel
theorem dX8_clear_1 : decode cX8_clear 1 = .ok (.istore_n 1, 1) := by decide +kernel
theorem dX8_clear_2 : decode cX8_clear 2 = .ok (.iload_n 1, 1) := by decide +kernel
theorem dX8_clear_3 : decode cX8_clear 3 = .ok (.aload_n 0, 1) := by decide +kernel
theorem dX8_clear_4 : decode cX8_clear 4 = .ok (.getfield 28, 3) := by decide +kernel
theorem dX8_clear_7 : decode cX8_clear 7 = .ok (.if_icmp .gt 35, 3) := by decide +kernel
theorem dX8_clear_10 : decode cX8_clear 10 = .ok (.iconst 0, 1) := by decide +kernel
theorem dX8_clear_11 : decode cX8_clear 11 = .ok (.istore_n 2, 1) := by decide +kernel
theorem dX8_clear_12 : decode cX8_clear 12 = .ok (.iload_n 2, 1) := by decide +kernel
theorem dX8_clear_13 : decode cX8_clear 13 = .ok (.aload_n 0, 1) := by decide +kernel
theorem dX8_clear_14 : decode cX8_clear 14 = .ok (.getfield 32, 3) := by decide +kernel
theorem dX8_clear_17 : decode cX8_clear 17 = .ok (.if_icmp .gt 19, 3) := by decide +kernel
theorem dX8_clear_20 : decode cX8_clear 20 = .ok (.aload_n 0, 1) := by decide +kernel
theorem dX8_clear_21 : decode cX8_clear 21 = .ok (.iload_n 1, 1) := by decide +kernel
theorem dX8_clear_22 : decode cX8_clear 22 = .ok (.iload_n 2, 1) := by decide +kernel
theorem dX8_clear_23 : decode cX8_clear 23 = .ok (.invokevirtual 90, 3) := by decide +kernel
theorem dX8_clear_26 : decode cX8_clear 26 = .ok (.lconst 0, 1) := by decide +kernel
theorem dX8_clear_27 : decode cX8_clear 27 = .ok (.invokevirtual 82, 3) := by decide +kernel
theorem dX8_clear_30 : decode cX8_clear 30 = .ok (.iinc 2 1, 3) := by decide +kernel
theorem dX8_clear_33 : decode cX8_clear 33 = .ok (.goto (-21), 3) := by decide +kernel
theorem dX8_clear_36 : decode cX8_clear 36 = .ok (.iinc 1 1, 3) := by decide +kernel
theorem dX8_clear_39 : decode cX8_clear 39 = .ok (.goto (-37), 3) := by decide +kernel
theorem dX8_clear_42 : decode cX8_clear 42 = .ok (.iconst 0, 1) := by decide +kernel
theorem dX8_clear_43 : decode cX8_clear 43 = .ok (.istore_n 1, 1) := by decide +kernel
theorem dX8_clear_44 : decode cX8_clear 44 = .ok (.iload_n 1, 1) := by decide +kernel
theorem dX8_clear_45 : decode cX8_clear 45 = .ok (.aload_n 0, 1) := by decide +kernel
theorem dX8_clear_46 : decode cX8_clear 46 = .ok (.getfield 28, 3) := by decide +kernel
theorem dX8_clear_49 : decode cX8_clear 49 = .ok (.if_icmp .ge 21, 3) := by decide +kernel
theorem dX8_clear_52 : decode cX8_clear 52 = .ok (.aload_n 0, 1) := by decide +kernel
theorem dX8_clear_53 : decode cX8_clear 53 = .ok (.getfield 17, 3) := by decide +kernel
theorem dX8_clear_56 : decode cX8_clear 56 = .ok (.iload_n 1, 1) := by decide +kernel
theorem dX8_clear_57 : decode cX8_clear 57 = .ok (.aload_n 0, 1) := by decide +kernel
theorem dX8_clear_58 : decode cX8_clear 58 = .ok (.getfield 32, 3) := by decide +kernel
theorem dX8_clear_61 : decode cX8_clear 61 = .ok (.iload_n 1, 1) := by decide +kernel
theorem dX8_clear_62 : decode cX8_clear 62 = .ok (.iadd, 1) := by decide +kernel
theorem dX8_clear_63 : decode cX8_clear 63 = .ok (.iastore, 1) := by decide +kernel
theorem dX8_clear_64 : decode cX8_clear 64 = .ok (.iinc 1 1, 3) := by decide +kernel
theorem dX8_clear_67 : decode cX8_clear 67 = .ok (.goto (-23), 3) := by decide +kernel
theorem dX8_clear_70 : decode cX8_clear 70 = .ok (.iconst 0, 1) := by decide +kernel
theorem dX8_clear_71 : decode cX8_clear 71 = .ok (.istore_n 1, 1) := by decide +kernel
theorem dX8_clear_72 : decode cX8_clear 72 = .ok (.iload_n 1, 1) := by decide +kernel
theorem dX8_clear_73 : decode cX8_clear 73 = .ok (.aload_n 0, 1) := by decide +kernel
theorem dX8_clear_74 : decode cX8_clear 74 = .ok (.getfield 32, 3) := by decide +kernel
theorem dX8_clear_77 : decode cX8_clear 77 = .ok (.if_icmp .ge 16, 3) := by decide +kernel
theorem dX8_clear_80 : decode cX8_clear 80 = .ok (.aload_n 0, 1) := by decide +kernel
theorem dX8_clear_81 : decode cX8_clear 81 = .ok (.getfield 21, 3) := by decide +kernel
theorem dX8_clear_84 : decode cX8_clear 84 = .ok (.iload_n 1, 1) := by decide +kernel
theorem dX8_clear_85 : decode cX8_clear 85 = .ok (.iload_n 1, 1) := by decide +kernel
theorem dX8_clear_86 : decode cX8_clear 86 = .ok (.iastore, 1) := by decide +kernel
theorem dX8_clear_87 : decode cX8_clear 87 = .ok (.iinc 1 1, 3) := by decide +kernel
theorem dX8_clear_90 : decode cX8_clear 90 = .ok (.goto (-18), 3) := by decide +kernel
theorem dX8_clear_93 : decode cX8_clear 93 = .ok (.aload_n 0, 1) := by decide +kernel
theorem dX8_clear_94 : decode cX8_clear 94 = .ok (.getfield 48, 3) := by decide +kernel
theorem dX8_clear_97 : decode cX8_clear 97 = .ok (.lconst 1, 1) := by decide +kernel
theorem dX8_clear_98 : decode cX8_clear 98 = .ok (.invokevirtual 82, 3) := by decide +kernel
theorem dX8_clear_101 : decode cX8_clear 101 = .ok (.return_, 1) := by decide +kernel
set_option maxRecDepth 20000 in
theorem ggX8_setFloors_X7_setOf : GoodIn wsX8_setFloors wsX7_setOf := goodIn_r _ [7] rfl (by decide +kernel)
set_option maxRecDepth 20000 in
theorem gX8_setFloors_X7_setOf : GoodIn wsX8_setFloors (va_wsS RX8 145 yX7_setOf wsX7_setOf) := goodIn_app (goodIn_r _ [4, 5, 6] rfl (by decide +kernel)) ggX8_setFloors_X7_setOf
theorem dX8_setFloors_0 : decode cX8_setFloors 0 = .ok (.aload_n 1, 1) := by decide +kernel
theorem dX8_setFloors_1 : decode cX8_setFloors 1 = .ok (.getfield 117, 3) := by decide +kernel
theorem dX8_setFloors_4 : decode cX8_setFloors 4 = .ok (.iconst 1, 1) := by decide +kernel
theorem dX8_setFloors_5 : decode cX8_setFloors 5 = .ok (.isub, 1) := by decide +kernel
theorem dX8_setFloors_6 : decode cX8_setFloors 6 = .ok (.istore 4, 2) := by decide +kernel
theorem dX8_setFloors_8 : decode cX8_setFloors 8 = .ok (.iload 4, 2) := by decide +kernel
theorem dX8_setFloors_10 : decode cX8_setFloors 10 = .ok (.ifCond .lt 80, 3) := by decide +kernel
theorem dX8_setFloors_13 : decode cX8_setFloors 13 = .ok (.aload_n 0, 1) := by decide +kernel
theorem dX8_setFloors_14 : decode cX8_setFloors 14 = .ok (.getfield 24, 3) := by decide +kernel
theorem dX8_setFloors_17 : decode cX8_setFloors 17 = .ok (.iload 4, 2) := by decide +kernel
theorem dX8_setFloors_19 : decode cX8_setFloors 19 = .ok (.lload_n 2, 1) := by decide +kernel
theorem dX8_setFloors_20 : decode cX8_setFloors 20 = .ok (.lastore, 1) := by decide +kernel
theorem dX8_setFloors_21 : decode cX8_setFloors 21 = .ok (.iload 4, 2) := by decide +kernel
theorem dX8_setFloors_23 : decode cX8_setFloors 23 = .ok (.iconst 1, 1) := by decide +kernel
theorem dX8_setFloors_24 : decode cX8_setFloors 24 = .ok (.iadd, 1) := by decide +kernel
theorem dX8_setFloors_25 : decode cX8_setFloors 25 = .ok (.istore 5, 2) := by decide +kernel
theorem dX8_setFloors_27 : decode cX8_setFloors 27 = .ok (.iload 5, 2) := by decide +kernel
theorem dX8_setFloors_29 : decode cX8_setFloors 29 = .ok (.aload_n 1, 1) := by decide +kernel
theorem dX8_setFloors_30 : decode cX8_setFloors 30 = .ok (.getfield 117, 3) := by decide +kernel
theorem dX8_setFloors_33 : decode cX8_setFloors 33 = .ok (.if_icmp .ge 51, 3) := by decide +kernel
theorem dX8_setFloors_36 : decode cX8_setFloors 36 = .ok (.aload_n 1, 1) := by decide +kernel
theorem dX8_setFloors_37 : decode cX8_setFloors 37 = .ok (.getfield 142, 3) := by decide +kernel
theorem dX8_setFloors_40 : decode cX8_setFloors 40 = .ok (.iload 5, 2) := by decide +kernel
theorem dX8_setFloors_42 : decode cX8_setFloors 42 = .ok (.iaload, 1) := by decide +kernel
theorem dX8_setFloors_43 : decode cX8_setFloors 43 = .ok (.istore 6, 2) := by decide +kernel
theorem dX8_setFloors_45 : decode cX8_setFloors 45 = .ok (.iload 6, 2) := by decide +kernel
theorem dX8_setFloors_47 : decode cX8_setFloors 47 = .ok (.iconst (-1), 1) := by decide +kernel
theorem dX8_setFloors_48 : decode cX8_setFloors 48 = .ok (.if_icmp .eq 30, 3) := by decide +kernel
theorem dX8_setFloors_51 : decode cX8_setFloors 51 = .ok (.iload 6, 2) := by decide +kernel
theorem dX8_setFloors_53 : decode cX8_setFloors 53 = .ok (.invokestatic 145, 3) := by decide +kernel
theorem dX8_setFloors_56 : decode cX8_setFloors 56 = .ok (.iload 4, 2) := by decide +kernel
theorem dX8_setFloors_58 : decode cX8_setFloors 58 = .ok (.if_icmp .ne 20, 3) := by decide +kernel
theorem dX8_setFloors_61 : decode cX8_setFloors 61 = .ok (.aload_n 0, 1) := by decide +kernel
theorem dX8_setFloors_62 : decode cX8_setFloors 62 = .ok (.getfield 24, 3) := by decide +kernel
theorem dX8_setFloors_65 : decode cX8_setFloors 65 = .ok (.iload 4, 2) := by decide +kernel
theorem dX8_setFloors_67 : decode cX8_setFloors 67 = .ok (.dup2, 1) := by decide +kernel
theorem dX8_setFloors_68 : decode cX8_setFloors 68 = .ok (.laload, 1) := by decide +kernel
theorem dX8_setFloors_69 : decode cX8_setFloors 69 = .ok (.aload_n 0, 1) := by decide +kernel
theorem dX8_setFloors_70 : decode cX8_setFloors 70 = .ok (.getfield 24, 3) := by decide +kernel
theorem dX8_setFloors_73 : decode cX8_setFloors 73 = .ok (.iload 5, 2) := by decide +kernel
theorem dX8_setFloors_75 : decode cX8_setFloors 75 = .ok (.laload, 1) := by decide +kernel
theorem dX8_setFloors_76 : decode cX8_setFloors 76 = .ok (.ladd, 1) := by decide +kernel
theorem dX8_setFloors_77 : decode cX8_setFloors 77 = .ok (.lastore, 1) := by decide +kernel
theorem dX8_setFloors_78 : decode cX8_setFloors 78 = .ok (.iinc 5 1, 3) := by decide +kernel
theorem dX8_setFloors_81 : decode cX8_setFloors 81 = .ok (.goto (-54), 3) := by decide +kernel
theorem dX8_setFloors_84 : decode cX8_setFloors 84 = .ok (.iinc 4 (-1), 3) := by decide +kernel
theorem dX8_setFloors_87 : decode cX8_setFloors 87 = .ok (.goto (-79), 3) := by decide +kernel
theorem dX8_setFloors_90 : decode cX8_setFloors 90 = .ok (.return_, 1) := by decide +kernel
set_option maxRecDepth 20000 in
theorem ggX8_setUpLinesOfB_X8_setUpLineOfB : GoodIn wsX8_setUpLinesOfB wsX8_setUpLineOfB := goodIn_s _ [(9, 1), (1, 1), (10, 3), (2, 1), (13, 6), (8, 1), (19, 14), (41, 13), (33, 8), (54, 3)] rfl (by decide +kernel)
set_option maxRecDepth 20000 in
theorem gX8_setUpLinesOfB_X8_setUpLineOfB : GoodIn wsX8_setUpLinesOfB (wsV RX8 154 RX8 yX8_setUpLineOfB wsX8_setUpLineOfB) := goodIn_app (goodIn_r _ [5, 6, 7, 8] rfl (by decide +kernel)) ggX8_setUpLinesOfB_X8_setUpLineOfB
theorem dX8_setUpLinesOfB_0 : decode cX8_setUpLinesOfB 0 = .ok (.aload_n 1, 1) := by decide +kernel
theorem dX8_setUpLinesOfB_1 : decode cX8_setUpLinesOfB 1 = .ok (.getfield 106, 3) := by decide +kernel
theorem dX8_setUpLinesOfB_4 : decode cX8_setUpLinesOfB 4 = .ok (.iconst 1, 1) := by decide +kernel
theorem dX8_setUpLinesOfB_5 : decode cX8_setUpLinesOfB 5 = .ok (.aaload, 1) := by decide +kernel
theorem dX8_setUpLinesOfB_6 : decode cX8_setUpLinesOfB 6 = .ok (.astore_n 2, 1) := by decide +kernel
theorem dX8_setUpLinesOfB_7 : decode cX8_setUpLinesOfB 7 = .ok (.iconst 0, 1) := by decide +kernel
theorem dX8_setUpLinesOfB_8 : decode cX8_setUpLinesOfB 8 = .ok (.istore_n 3, 1) := by decide +kernel
theorem dX8_setUpLinesOfB_9 : decode cX8_setUpLinesOfB 9 = .ok (.iload_n 3, 1) := by decide +kernel
theorem dX8_setUpLinesOfB_10 : decode cX8_setUpLinesOfB 10 = .ok (.aload_n 2, 1) := by decide +kernel
theorem dX8_setUpLinesOfB_11 : decode cX8_setUpLinesOfB 11 = .ok (.getfield 117, 3) := by decide +kernel
theorem dX8_setUpLinesOfB_14 : decode cX8_setUpLinesOfB 14 = .ok (.if_icmp .ge 44, 3) := by decide +kernel
theorem dX8_setUpLinesOfB_17 : decode cX8_setUpLinesOfB 17 = .ok (.iconst 0, 1) := by decide +kernel
theorem dX8_setUpLinesOfB_18 : decode cX8_setUpLinesOfB 18 = .ok (.istore 4, 2) := by decide +kernel
theorem dX8_setUpLinesOfB_20 : decode cX8_setUpLinesOfB 20 = .ok (.iload 4, 2) := by decide +kernel
theorem dX8_setUpLinesOfB_22 : decode cX8_setUpLinesOfB 22 = .ok (.aload_n 2, 1) := by decide +kernel
theorem dX8_setUpLinesOfB_23 : decode cX8_setUpLinesOfB 23 = .ok (.getfield 148, 3) := by decide +kernel
theorem dX8_setUpLinesOfB_26 : decode cX8_setUpLinesOfB 26 = .ok (.iload_n 3, 1) := by decide +kernel
theorem dX8_setUpLinesOfB_27 : decode cX8_setUpLinesOfB 27 = .ok (.iaload, 1) := by decide +kernel
theorem dX8_setUpLinesOfB_28 : decode cX8_setUpLinesOfB 28 = .ok (.if_icmp .ge 24, 3) := by decide +kernel
theorem dX8_setUpLinesOfB_31 : decode cX8_setUpLinesOfB 31 = .ok (.aload_n 0, 1) := by decide +kernel
theorem dX8_setUpLinesOfB_32 : decode cX8_setUpLinesOfB 32 = .ok (.aload_n 1, 1) := by decide +kernel
theorem dX8_setUpLinesOfB_33 : decode cX8_setUpLinesOfB 33 = .ok (.iload_n 3, 1) := by decide +kernel
theorem dX8_setUpLinesOfB_34 : decode cX8_setUpLinesOfB 34 = .ok (.aload_n 2, 1) := by decide +kernel
theorem dX8_setUpLinesOfB_35 : decode cX8_setUpLinesOfB 35 = .ok (.getfield 151, 3) := by decide +kernel
theorem dX8_setUpLinesOfB_38 : decode cX8_setUpLinesOfB 38 = .ok (.iload_n 3, 1) := by decide +kernel
theorem dX8_setUpLinesOfB_39 : decode cX8_setUpLinesOfB 39 = .ok (.iaload, 1) := by decide +kernel
theorem dX8_setUpLinesOfB_40 : decode cX8_setUpLinesOfB 40 = .ok (.iload 4, 2) := by decide +kernel
theorem dX8_setUpLinesOfB_42 : decode cX8_setUpLinesOfB 42 = .ok (.iadd, 1) := by decide +kernel
theorem dX8_setUpLinesOfB_43 : decode cX8_setUpLinesOfB 43 = .ok (.invokevirtual 154, 3) := by decide +kernel
theorem dX8_setUpLinesOfB_46 : decode cX8_setUpLinesOfB 46 = .ok (.iinc 4 1, 3) := by decide +kernel
theorem dX8_setUpLinesOfB_49 : decode cX8_setUpLinesOfB 49 = .ok (.goto (-29), 3) := by decide +kernel
theorem dX8_setUpLinesOfB_52 : decode cX8_setUpLinesOfB 52 = .ok (.iinc 3 1, 3) := by decide +kernel
theorem dX8_setUpLinesOfB_55 : decode cX8_setUpLinesOfB 55 = .ok (.goto (-46), 3) := by decide +kernel
theorem dX8_setUpLinesOfB_58 : decode cX8_setUpLinesOfB 58 = .ok (.return_, 1) := by decide +kernel
set_option maxRecDepth 20000 in
theorem ggX8_setUpLineOfB_X8_cell : GoodIn wsX8_setUpLineOfB wsX8_cell := goodIn_s _ [(13, 2), (27, 13)] rfl (by decide +kernel)
set_option maxRecDepth 20000 in
theorem gX8_setUpLineOfB_X8_cell : GoodIn wsX8_setUpLineOfB (wsV RX8 90 RX8 yX8_cell wsX8_cell) := goodIn_app (goodIn_r _ [9, 10, 11, 12] rfl (by decide +kernel)) ggX8_setUpLineOfB_X8_cell
set_option maxRecDepth 20000 in
theorem ggX8_setUpLineOfB_X0_put : GoodIn wsX8_setUpLineOfB wsX0_put := goodIn_s _ [(19, 4), (48, 3)] rfl (by decide +kernel)
set_option maxRecDepth 20000 in
theorem gX8_setUpLineOfB_X0_put : GoodIn wsX8_setUpLineOfB (wsV RX8 82 RX0 yX0_put wsX0_put) := goodIn_app (goodIn_r _ [15, 16, 17, 18] rfl (by decide +kernel)) ggX8_setUpLineOfB_X0_put
theorem dX8_setUpLineOfB_0 : decode cX8_setUpLineOfB 0 = .ok (.aload_n 1, 1) := by decide +kernel
theorem dX8_setUpLineOfB_1 : decode cX8_setUpLineOfB 1 = .ok (.getfield 106, 3) := by decide +kernel
theorem dX8_setUpLineOfB_4 : decode cX8_setUpLineOfB 4 = .ok (.iconst 1, 1) := by decide +kernel
theorem dX8_setUpLineOfB_5 : decode cX8_setUpLineOfB 5 = .ok (.aaload, 1) := by decide +kernel
theorem dX8_setUpLineOfB_6 : decode cX8_setUpLineOfB 6 = .ok (.astore 4, 2) := by decide +kernel
theorem dX8_setUpLineOfB_8 : decode cX8_setUpLineOfB 8 = .ok (.iload_n 3, 1) := by decide +kernel
theorem dX8_setUpLineOfB_9 : decode cX8_setUpLineOfB 9 = .ok (.iconst 1, 1) := by decide +kernel
theorem dX8_setUpLineOfB_10 : decode cX8_setUpLineOfB 10 = .ok (.isub, 1) := by decide +kernel
theorem dX8_setUpLineOfB_11 : decode cX8_setUpLineOfB 11 = .ok (.istore 5, 2) := by decide +kernel
theorem dX8_setUpLineOfB_13 : decode cX8_setUpLineOfB 13 = .ok (.aload_n 1, 1) := by decide +kernel
theorem dX8_setUpLineOfB_14 : decode cX8_setUpLineOfB 14 = .ok (.getfield 158, 3) := by decide +kernel
theorem dX8_setUpLineOfB_17 : decode cX8_setUpLineOfB 17 = .ok (.iconst 0, 1) := by decide +kernel
theorem dX8_setUpLineOfB_18 : decode cX8_setUpLineOfB 18 = .ok (.aaload, 1) := by decide +kernel
theorem dX8_setUpLineOfB_19 : decode cX8_setUpLineOfB 19 = .ok (.iload_n 3, 1) := by decide +kernel
theorem dX8_setUpLineOfB_20 : decode cX8_setUpLineOfB 20 = .ok (.laload, 1) := by decide +kernel
theorem dX8_setUpLineOfB_21 : decode cX8_setUpLineOfB 21 = .ok (.aload_n 0, 1) := by decide +kernel
theorem dX8_setUpLineOfB_22 : decode cX8_setUpLineOfB 22 = .ok (.getfield 24, 3) := by decide +kernel
theorem dX8_setUpLineOfB_25 : decode cX8_setUpLineOfB 25 = .ok (.iload_n 2, 1) := by decide +kernel
theorem dX8_setUpLineOfB_26 : decode cX8_setUpLineOfB 26 = .ok (.laload, 1) := by decide +kernel
theorem dX8_setUpLineOfB_27 : decode cX8_setUpLineOfB 27 = .ok (.ladd, 1) := by decide +kernel
theorem dX8_setUpLineOfB_28 : decode cX8_setUpLineOfB 28 = .ok (.lstore 6, 2) := by decide +kernel
theorem dX8_setUpLineOfB_30 : decode cX8_setUpLineOfB 30 = .ok (.iconst 1, 1) := by decide +kernel
theorem dX8_setUpLineOfB_31 : decode cX8_setUpLineOfB 31 = .ok (.istore 8, 2) := by decide +kernel
theorem dX8_setUpLineOfB_33 : decode cX8_setUpLineOfB 33 = .ok (.iload 8, 2) := by decide +kernel
theorem dX8_setUpLineOfB_35 : decode cX8_setUpLineOfB 35 = .ok (.aload_n 0, 1) := by decide +kernel
theorem dX8_setUpLineOfB_36 : decode cX8_setUpLineOfB 36 = .ok (.getfield 35, 3) := by decide +kernel
theorem dX8_setUpLineOfB_39 : decode cX8_setUpLineOfB 39 = .ok (.if_icmp .ge 32, 3) := by decide +kernel
theorem dX8_setUpLineOfB_42 : decode cX8_setUpLineOfB 42 = .ok (.aload_n 0, 1) := by decide +kernel
theorem dX8_setUpLineOfB_43 : decode cX8_setUpLineOfB 43 = .ok (.iload 5, 2) := by decide +kernel
theorem dX8_setUpLineOfB_45 : decode cX8_setUpLineOfB 45 = .ok (.iload 8, 2) := by decide +kernel
theorem dX8_setUpLineOfB_47 : decode cX8_setUpLineOfB 47 = .ok (.iconst 1, 1) := by decide +kernel
theorem dX8_setUpLineOfB_48 : decode cX8_setUpLineOfB 48 = .ok (.isub, 1) := by decide +kernel
theorem dX8_setUpLineOfB_49 : decode cX8_setUpLineOfB 49 = .ok (.invokevirtual 90, 3) := by decide +kernel
theorem dX8_setUpLineOfB_52 : decode cX8_setUpLineOfB 52 = .ok (.aload_n 1, 1) := by decide +kernel
theorem dX8_setUpLineOfB_53 : decode cX8_setUpLineOfB 53 = .ok (.getfield 158, 3) := by decide +kernel
theorem dX8_setUpLineOfB_56 : decode cX8_setUpLineOfB 56 = .ok (.iload 8, 2) := by decide +kernel
theorem dX8_setUpLineOfB_58 : decode cX8_setUpLineOfB 58 = .ok (.aaload, 1) := by decide +kernel
theorem dX8_setUpLineOfB_59 : decode cX8_setUpLineOfB 59 = .ok (.iload_n 3, 1) := by decide +kernel
theorem dX8_setUpLineOfB_60 : decode cX8_setUpLineOfB 60 = .ok (.laload, 1) := by decide +kernel
theorem dX8_setUpLineOfB_61 : decode cX8_setUpLineOfB 61 = .ok (.lneg, 1) := by decide +kernel
theorem dX8_setUpLineOfB_62 : decode cX8_setUpLineOfB 62 = .ok (.invokevirtual 82, 3) := by decide +kernel
theorem dX8_setUpLineOfB_65 : decode cX8_setUpLineOfB 65 = .ok (.iinc 8 1, 3) := by decide +kernel
theorem dX8_setUpLineOfB_68 : decode cX8_setUpLineOfB 68 = .ok (.goto (-35), 3) := by decide +kernel
theorem dX8_setUpLineOfB_71 : decode cX8_setUpLineOfB 71 = .ok (.aload_n 0, 1) := by decide +kernel
theorem dX8_setUpLineOfB_72 : decode cX8_setUpLineOfB 72 = .ok (.iload 5, 2) := by decide +kernel
theorem dX8_setUpLineOfB_74 : decode cX8_setUpLineOfB 74 = .ok (.aload_n 0, 1) := by decide +kernel
theorem dX8_setUpLineOfB_75 : decode cX8_setUpLineOfB 75 = .ok (.getfield 35, 3) := by decide +kernel
theorem dX8_setUpLineOfB_78 : decode cX8_setUpLineOfB 78 = .ok (.iconst 1, 1) := by decide +kernel
theorem dX8_setUpLineOfB_79 : decode cX8_setUpLineOfB 79 = .ok (.isub, 1) := by decide +kernel
theorem dX8_setUpLineOfB_80 : decode cX8_setUpLineOfB 80 = .ok (.iload_n 2, 1) := by decide +kernel
theorem dX8_setUpLineOfB_81 : decode cX8_setUpLineOfB 81 = .ok (.iadd, 1) := by decide +kernel
theorem dX8_setUpLineOfB_82 : decode cX8_setUpLineOfB 82 = .ok (.invokevirtual 90, 3) := by decide +kernel
theorem dX8_setUpLineOfB_85 : decode cX8_setUpLineOfB 85 = .ok (.lconst 1, 1) := by decide +kernel
theorem dX8_setUpLineOfB_86 : decode cX8_setUpLineOfB 86 = .ok (.invokevirtual 82, 3) := by decide +kernel
theorem dX8_setUpLineOfB_89 : decode cX8_setUpLineOfB 89 = .ok (.iconst 0, 1) := by decide +kernel
theorem dX8_setUpLineOfB_90 : decode cX8_setUpLineOfB 90 = .ok (.istore 8, 2) := by decide +kernel
theorem dX8_setUpLineOfB_92 : decode cX8_setUpLineOfB 92 = .ok (.iload 8, 2) := by decide +kernel
theorem dX8_setUpLineOfB_94 : decode cX8_setUpLineOfB 94 = .ok (.aload 4, 2) := by decide +kernel
theorem dX8_setUpLineOfB_96 : decode cX8_setUpLineOfB 96 = .ok (.getfield 117, 3) := by decide +kernel
theorem dX8_setUpLineOfB_99 : decode cX8_setUpLineOfB 99 = .ok (.if_icmp .ge 54, 3) := by decide +kernel
theorem dX8_setUpLineOfB_102 : decode cX8_setUpLineOfB 102 = .ok (.aload 4, 2) := by decide +kernel
theorem dX8_setUpLineOfB_104 : decode cX8_setUpLineOfB 104 = .ok (.getfield 162, 3) := by decide +kernel
theorem dX8_setUpLineOfB_107 : decode cX8_setUpLineOfB 107 = .ok (.iload 8, 2) := by decide +kernel
theorem dX8_setUpLineOfB_109 : decode cX8_setUpLineOfB 109 = .ok (.iaload, 1) := by decide +kernel
theorem dX8_setUpLineOfB_110 : decode cX8_setUpLineOfB 110 = .ok (.iload_n 3, 1) := by decide +kernel
theorem dX8_setUpLineOfB_111 : decode cX8_setUpLineOfB 111 = .ok (.if_icmp .ne 36, 3) := by decide +kernel
theorem dX8_setUpLineOfB_114 : decode cX8_setUpLineOfB 114 = .ok (.aload_n 0, 1) := by decide +kernel
theorem dX8_setUpLineOfB_115 : decode cX8_setUpLineOfB 115 = .ok (.iload 5, 2) := by decide +kernel
theorem dX8_setUpLineOfB_117 : decode cX8_setUpLineOfB 117 = .ok (.aload_n 0, 1) := by decide +kernel
theorem dX8_setUpLineOfB_118 : decode cX8_setUpLineOfB 118 = .ok (.getfield 35, 3) := by decide +kernel
theorem dX8_setUpLineOfB_121 : decode cX8_setUpLineOfB 121 = .ok (.iconst 1, 1) := by decide +kernel
theorem dX8_setUpLineOfB_122 : decode cX8_setUpLineOfB 122 = .ok (.isub, 1) := by decide +kernel
theorem dX8_setUpLineOfB_123 : decode cX8_setUpLineOfB 123 = .ok (.iload 8, 2) := by decide +kernel
theorem dX8_setUpLineOfB_125 : decode cX8_setUpLineOfB 125 = .ok (.iadd, 1) := by decide +kernel
theorem dX8_setUpLineOfB_126 : decode cX8_setUpLineOfB 126 = .ok (.invokevirtual 90, 3) := by decide +kernel
theorem dX8_setUpLineOfB_129 : decode cX8_setUpLineOfB 129 = .ok (.ldc2_w 165, 3) := by decide +kernel
theorem dX8_setUpLineOfB_132 : decode cX8_setUpLineOfB 132 = .ok (.invokevirtual 82, 3) := by decide +kernel
theorem dX8_setUpLineOfB_135 : decode cX8_setUpLineOfB 135 = .ok (.lload 6, 2) := by decide +kernel
theorem dX8_setUpLineOfB_137 : decode cX8_setUpLineOfB 137 = .ok (.aload_n 0, 1) := by decide +kernel
theorem dX8_setUpLineOfB_138 : decode cX8_setUpLineOfB 138 = .ok (.getfield 24, 3) := by decide +kernel
theorem dX8_setUpLineOfB_141 : decode cX8_setUpLineOfB 141 = .ok (.iload 8, 2) := by decide +kernel
theorem dX8_setUpLineOfB_143 : decode cX8_setUpLineOfB 143 = .ok (.laload, 1) := by decide +kernel
theorem dX8_setUpLineOfB_144 : decode cX8_setUpLineOfB 144 = .ok (.lsub, 1) := by decide +kernel
theorem dX8_setUpLineOfB_145 : decode cX8_setUpLineOfB 145 = .ok (.lstore 6, 2) := by decide +kernel
theorem dX8_setUpLineOfB_147 : decode cX8_setUpLineOfB 147 = .ok (.iinc 8 1, 3) := by decide +kernel
theorem dX8_setUpLineOfB_150 : decode cX8_setUpLineOfB 150 = .ok (.goto (-58), 3) := by decide +kernel
theorem dX8_setUpLineOfB_153 : decode cX8_setUpLineOfB 153 = .ok (.aload_n 0, 1) := by decide +kernel
theorem dX8_setUpLineOfB_154 : decode cX8_setUpLineOfB 154 = .ok (.iload 5, 2) := by decide +kernel
theorem dX8_setUpLineOfB_156 : decode cX8_setUpLineOfB 156 = .ok (.aload_n 0, 1) := by decide +kernel
theorem dX8_setUpLineOfB_157 : decode cX8_setUpLineOfB 157 = .ok (.getfield 32, 3) := by decide +kernel
theorem dX8_setUpLineOfB_160 : decode cX8_setUpLineOfB 160 = .ok (.invokevirtual 90, 3) := by decide +kernel
theorem dX8_setUpLineOfB_163 : decode cX8_setUpLineOfB 163 = .ok (.lload 6, 2) := by decide +kernel
theorem dX8_setUpLineOfB_165 : decode cX8_setUpLineOfB 165 = .ok (.invokevirtual 82, 3) := by decide +kernel
theorem dX8_setUpLineOfB_168 : decode cX8_setUpLineOfB 168 = .ok (.return_, 1) := by decide +kernel
set_option maxRecDepth 20000 in
theorem ggX8_setUpSetsOfA_X8_cell : GoodIn wsX8_setUpSetsOfA wsX8_cell := goodIn_s _ [(12, 2), (30, 13)] rfl (by decide +kernel)
set_option maxRecDepth 20000 in
theorem gX8_setUpSetsOfA_X8_cell : GoodIn wsX8_setUpSetsOfA (wsV RX8 90 RX8 yX8_cell wsX8_cell) := goodIn_app (goodIn_r _ [8, 9, 10, 11] rfl (by decide +kernel)) ggX8_setUpSetsOfA_X8_cell
set_option maxRecDepth 20000 in
theorem ggX8_setUpSetsOfA_X0_put : GoodIn wsX8_setUpSetsOfA wsX0_put := goodIn_s _ [(18, 4), (43, 3)] rfl (by decide +kernel)
set_option maxRecDepth 20000 in
theorem gX8_setUpSetsOfA_X0_put : GoodIn wsX8_setUpSetsOfA (wsV RX8 82 RX0 yX0_put wsX0_put) := goodIn_app (goodIn_r _ [14, 15, 16, 17] rfl (by decide +kernel)) ggX8_setUpSetsOfA_X0_put
theorem dX8_setUpSetsOfA_0 : decode cX8_setUpSetsOfA 0 = .ok (.iconst 0, 1) := by decide +kernel
theorem dX8_setUpSetsOfA_1 : decode cX8_setUpSetsOfA 1 = .ok (.istore_n 2, 1) := by decide +kernel
theorem dX8_setUpSetsOfA_2 : decode cX8_setUpSetsOfA 2 = .ok (.iload_n 2, 1) := by decide +kernel
theorem dX8_setUpSetsOfA_3 : decode cX8_setUpSetsOfA 3 = .ok (.aload_n 1, 1) := by decide +kernel
theorem dX8_setUpSetsOfA_4 : decode cX8_setUpSetsOfA 4 = .ok (.getfield 117, 3) := by decide +kernel
theorem dX8_setUpSetsOfA_7 : decode cX8_setUpSetsOfA 7 = .ok (.if_icmp .ge 102, 3) := by decide +kernel
theorem dX8_setUpSetsOfA_10 : decode cX8_setUpSetsOfA 10 = .ok (.aload_n 0, 1) := by decide +kernel
theorem dX8_setUpSetsOfA_11 : decode cX8_setUpSetsOfA 11 = .ok (.getfield 38, 3) := by decide +kernel
theorem dX8_setUpSetsOfA_14 : decode cX8_setUpSetsOfA 14 = .ok (.iconst 1, 1) := by decide +kernel
theorem dX8_setUpSetsOfA_15 : decode cX8_setUpSetsOfA 15 = .ok (.isub, 1) := by decide +kernel
theorem dX8_setUpSetsOfA_16 : decode cX8_setUpSetsOfA 16 = .ok (.iload_n 2, 1) := by decide +kernel
theorem dX8_setUpSetsOfA_17 : decode cX8_setUpSetsOfA 17 = .ok (.iadd, 1) := by decide +kernel
theorem dX8_setUpSetsOfA_18 : decode cX8_setUpSetsOfA 18 = .ok (.istore_n 3, 1) := by decide +kernel
theorem dX8_setUpSetsOfA_19 : decode cX8_setUpSetsOfA 19 = .ok (.iconst 0, 1) := by decide +kernel
theorem dX8_setUpSetsOfA_20 : decode cX8_setUpSetsOfA 20 = .ok (.istore 4, 2) := by decide +kernel
theorem dX8_setUpSetsOfA_22 : decode cX8_setUpSetsOfA 22 = .ok (.iload 4, 2) := by decide +kernel
theorem dX8_setUpSetsOfA_24 : decode cX8_setUpSetsOfA 24 = .ok (.aload_n 1, 1) := by decide +kernel
theorem dX8_setUpSetsOfA_25 : decode cX8_setUpSetsOfA 25 = .ok (.getfield 148, 3) := by decide +kernel
theorem dX8_setUpSetsOfA_28 : decode cX8_setUpSetsOfA 28 = .ok (.iload_n 2, 1) := by decide +kernel
theorem dX8_setUpSetsOfA_29 : decode cX8_setUpSetsOfA 29 = .ok (.iaload, 1) := by decide +kernel
theorem dX8_setUpSetsOfA_30 : decode cX8_setUpSetsOfA 30 = .ok (.if_icmp .ge 29, 3) := by decide +kernel
theorem dX8_setUpSetsOfA_33 : decode cX8_setUpSetsOfA 33 = .ok (.aload_n 0, 1) := by decide +kernel
theorem dX8_setUpSetsOfA_34 : decode cX8_setUpSetsOfA 34 = .ok (.iload_n 3, 1) := by decide +kernel
theorem dX8_setUpSetsOfA_35 : decode cX8_setUpSetsOfA 35 = .ok (.aload_n 1, 1) := by decide +kernel
theorem dX8_setUpSetsOfA_36 : decode cX8_setUpSetsOfA 36 = .ok (.getfield 151, 3) := by decide +kernel
theorem dX8_setUpSetsOfA_39 : decode cX8_setUpSetsOfA 39 = .ok (.iload_n 2, 1) := by decide +kernel
theorem dX8_setUpSetsOfA_40 : decode cX8_setUpSetsOfA 40 = .ok (.iaload, 1) := by decide +kernel
theorem dX8_setUpSetsOfA_41 : decode cX8_setUpSetsOfA 41 = .ok (.iload 4, 2) := by decide +kernel
theorem dX8_setUpSetsOfA_43 : decode cX8_setUpSetsOfA 43 = .ok (.iadd, 1) := by decide +kernel
theorem dX8_setUpSetsOfA_44 : decode cX8_setUpSetsOfA 44 = .ok (.iconst 1, 1) := by decide +kernel
theorem dX8_setUpSetsOfA_45 : decode cX8_setUpSetsOfA 45 = .ok (.isub, 1) := by decide +kernel
theorem dX8_setUpSetsOfA_46 : decode cX8_setUpSetsOfA 46 = .ok (.invokevirtual 90, 3) := by decide +kernel
theorem dX8_setUpSetsOfA_49 : decode cX8_setUpSetsOfA 49 = .ok (.lconst 1, 1) := by decide +kernel
theorem dX8_setUpSetsOfA_50 : decode cX8_setUpSetsOfA 50 = .ok (.invokevirtual 82, 3) := by decide +kernel
theorem dX8_setUpSetsOfA_53 : decode cX8_setUpSetsOfA 53 = .ok (.iinc 4 1, 3) := by decide +kernel
theorem dX8_setUpSetsOfA_56 : decode cX8_setUpSetsOfA 56 = .ok (.goto (-34), 3) := by decide +kernel
theorem dX8_setUpSetsOfA_59 : decode cX8_setUpSetsOfA 59 = .ok (.aload_n 1, 1) := by decide +kernel
theorem dX8_setUpSetsOfA_60 : decode cX8_setUpSetsOfA 60 = .ok (.getfield 162, 3) := by decide +kernel
theorem dX8_setUpSetsOfA_63 : decode cX8_setUpSetsOfA 63 = .ok (.iload_n 2, 1) := by decide +kernel
theorem dX8_setUpSetsOfA_64 : decode cX8_setUpSetsOfA 64 = .ok (.iaload, 1) := by decide +kernel
theorem dX8_setUpSetsOfA_65 : decode cX8_setUpSetsOfA 65 = .ok (.ifCond .ne 19, 3) := by decide +kernel
theorem dX8_setUpSetsOfA_68 : decode cX8_setUpSetsOfA 68 = .ok (.aload_n 0, 1) := by decide +kernel
theorem dX8_setUpSetsOfA_69 : decode cX8_setUpSetsOfA 69 = .ok (.iload_n 3, 1) := by decide +kernel
theorem dX8_setUpSetsOfA_70 : decode cX8_setUpSetsOfA 70 = .ok (.aload_n 0, 1) := by decide +kernel
theorem dX8_setUpSetsOfA_71 : decode cX8_setUpSetsOfA 71 = .ok (.getfield 32, 3) := by decide +kernel
theorem dX8_setUpSetsOfA_74 : decode cX8_setUpSetsOfA 74 = .ok (.invokevirtual 90, 3) := by decide +kernel
theorem dX8_setUpSetsOfA_77 : decode cX8_setUpSetsOfA 77 = .ok (.lconst 1, 1) := by decide +kernel
theorem dX8_setUpSetsOfA_78 : decode cX8_setUpSetsOfA 78 = .ok (.invokevirtual 82, 3) := by decide +kernel
theorem dX8_setUpSetsOfA_81 : decode cX8_setUpSetsOfA 81 = .ok (.goto 22, 3) := by decide +kernel
theorem dX8_setUpSetsOfA_84 : decode cX8_setUpSetsOfA 84 = .ok (.aload_n 0, 1) := by decide +kernel
theorem dX8_setUpSetsOfA_85 : decode cX8_setUpSetsOfA 85 = .ok (.iload_n 3, 1) := by decide +kernel
theorem dX8_setUpSetsOfA_86 : decode cX8_setUpSetsOfA 86 = .ok (.aload_n 1, 1) := by decide +kernel
theorem dX8_setUpSetsOfA_87 : decode cX8_setUpSetsOfA 87 = .ok (.getfield 162, 3) := by decide +kernel
theorem dX8_setUpSetsOfA_90 : decode cX8_setUpSetsOfA 90 = .ok (.iload_n 2, 1) := by decide +kernel
theorem dX8_setUpSetsOfA_91 : decode cX8_setUpSetsOfA 91 = .ok (.iaload, 1) := by decide +kernel
theorem dX8_setUpSetsOfA_92 : decode cX8_setUpSetsOfA 92 = .ok (.iconst 1, 1) := by decide +kernel
theorem dX8_setUpSetsOfA_93 : decode cX8_setUpSetsOfA 93 = .ok (.isub, 1) := by decide +kernel
theorem dX8_setUpSetsOfA_94 : decode cX8_setUpSetsOfA 94 = .ok (.invokevirtual 90, 3) := by decide +kernel
theorem dX8_setUpSetsOfA_97 : decode cX8_setUpSetsOfA 97 = .ok (.ldc2_w 165, 3) := by decide +kernel
theorem dX8_setUpSetsOfA_100 : decode cX8_setUpSetsOfA 100 = .ok (.invokevirtual 82, 3) := by decide +kernel
theorem dX8_setUpSetsOfA_103 : decode cX8_setUpSetsOfA 103 = .ok (.iinc 2 1, 3) := by decide +kernel
theorem dX8_setUpSetsOfA_106 : decode cX8_setUpSetsOfA 106 = .ok (.goto (-104), 3) := by decide +kernel
theorem dX8_setUpSetsOfA_109 : decode cX8_setUpSetsOfA 109 = .ok (.return_, 1) := by decide +kernel
set_option maxRecDepth 20000 in
theorem ggX8_setUpGoal_X7_countChildren : GoodIn wsX8_setUpGoal wsX7_countChildren := goodIn_s _ [(14, 3), (48, 8)] rfl (by decide +kernel)
set_option maxRecDepth 20000 in
theorem gX8_setUpGoal_X7_countChildren : GoodIn wsX8_setUpGoal (wsV RX8 167 RX7 yX7_countChildren wsX7_countChildren) := goodIn_app (goodIn_r _ [10, 11, 12, 13] rfl (by decide +kernel)) ggX8_setUpGoal_X7_countChildren
set_option maxRecDepth 20000 in
theorem ggX8_setUpGoal_X8_cell : GoodIn wsX8_setUpGoal wsX8_cell := goodIn_s _ [(21, 2), (35, 13)] rfl (by decide +kernel)
set_option maxRecDepth 20000 in
theorem gX8_setUpGoal_X8_cell : GoodIn wsX8_setUpGoal (wsV RX8 90 RX8 yX8_cell wsX8_cell) := goodIn_app (goodIn_r _ [17, 18, 19, 20] rfl (by decide +kernel)) ggX8_setUpGoal_X8_cell
set_option maxRecDepth 20000 in
theorem ggX8_setUpGoal_X0_put : GoodIn wsX8_setUpGoal wsX0_put := goodIn_s _ [(27, 4), (56, 3)] rfl (by decide +kernel)
set_option maxRecDepth 20000 in
theorem gX8_setUpGoal_X0_put : GoodIn wsX8_setUpGoal (wsV RX8 82 RX0 yX0_put wsX0_put) := goodIn_app (goodIn_r _ [23, 24, 25, 26] rfl (by decide +kernel)) ggX8_setUpGoal_X0_put
theorem dX8_setUpGoal_0 : decode cX8_setUpGoal 0 = .ok (.aload_n 1, 1) := by decide +kernel
theorem dX8_setUpGoal_1 : decode cX8_setUpGoal 1 = .ok (.getfield 106, 3) := by decide +kernel
theorem dX8_setUpGoal_4 : decode cX8_setUpGoal 4 = .ok (.iconst 0, 1) := by decide +kernel
theorem dX8_setUpGoal_5 : decode cX8_setUpGoal 5 = .ok (.aaload, 1) := by decide +kernel
theorem dX8_setUpGoal_6 : decode cX8_setUpGoal 6 = .ok (.astore 4, 2) := by decide +kernel
theorem dX8_setUpGoal_8 : decode cX8_setUpGoal 8 = .ok (.aload_n 1, 1) := by decide +kernel
theorem dX8_setUpGoal_9 : decode cX8_setUpGoal 9 = .ok (.getfield 106, 3) := by decide +kernel
theorem dX8_setUpGoal_12 : decode cX8_setUpGoal 12 = .ok (.iconst 1, 1) := by decide +kernel
theorem dX8_setUpGoal_13 : decode cX8_setUpGoal 13 = .ok (.aaload, 1) := by decide +kernel
theorem dX8_setUpGoal_14 : decode cX8_setUpGoal 14 = .ok (.astore 5, 2) := by decide +kernel
theorem dX8_setUpGoal_16 : decode cX8_setUpGoal 16 = .ok (.iconst 1, 1) := by decide +kernel
theorem dX8_setUpGoal_17 : decode cX8_setUpGoal 17 = .ok (.istore 6, 2) := by decide +kernel
theorem dX8_setUpGoal_19 : decode cX8_setUpGoal 19 = .ok (.iload 6, 2) := by decide +kernel
theorem dX8_setUpGoal_21 : decode cX8_setUpGoal 21 = .ok (.aload_n 0, 1) := by decide +kernel
theorem dX8_setUpGoal_22 : decode cX8_setUpGoal 22 = .ok (.getfield 35, 3) := by decide +kernel
theorem dX8_setUpGoal_25 : decode cX8_setUpGoal 25 = .ok (.if_icmp .ge 51, 3) := by decide +kernel
theorem dX8_setUpGoal_28 : decode cX8_setUpGoal 28 = .ok (.aload_n 1, 1) := by decide +kernel
theorem dX8_setUpGoal_29 : decode cX8_setUpGoal 29 = .ok (.getfield 158, 3) := by decide +kernel
theorem dX8_setUpGoal_32 : decode cX8_setUpGoal 32 = .ok (.iload 6, 2) := by decide +kernel
theorem dX8_setUpGoal_34 : decode cX8_setUpGoal 34 = .ok (.aaload, 1) := by decide +kernel
theorem dX8_setUpGoal_35 : decode cX8_setUpGoal 35 = .ok (.iconst 0, 1) := by decide +kernel
theorem dX8_setUpGoal_36 : decode cX8_setUpGoal 36 = .ok (.laload, 1) := by decide +kernel
theorem dX8_setUpGoal_37 : decode cX8_setUpGoal 37 = .ok (.lload_n 2, 1) := by decide +kernel
theorem dX8_setUpGoal_38 : decode cX8_setUpGoal 38 = .ok (.iconst 1, 1) := by decide +kernel
theorem dX8_setUpGoal_39 : decode cX8_setUpGoal 39 = .ok (.aload 4, 2) := by decide +kernel
theorem dX8_setUpGoal_41 : decode cX8_setUpGoal 41 = .ok (.iload 6, 2) := by decide +kernel
theorem dX8_setUpGoal_43 : decode cX8_setUpGoal 43 = .ok (.invokevirtual 167, 3) := by decide +kernel
theorem dX8_setUpGoal_46 : decode cX8_setUpGoal 46 = .ok (.isub, 1) := by decide +kernel
theorem dX8_setUpGoal_47 : decode cX8_setUpGoal 47 = .ok (.i2l, 1) := by decide +kernel
theorem dX8_setUpGoal_48 : decode cX8_setUpGoal 48 = .ok (.lmul, 1) := by decide +kernel
theorem dX8_setUpGoal_49 : decode cX8_setUpGoal 49 = .ok (.ladd, 1) := by decide +kernel
theorem dX8_setUpGoal_50 : decode cX8_setUpGoal 50 = .ok (.lstore 7, 2) := by decide +kernel
theorem dX8_setUpGoal_52 : decode cX8_setUpGoal 52 = .ok (.aload_n 0, 1) := by decide +kernel
theorem dX8_setUpGoal_53 : decode cX8_setUpGoal 53 = .ok (.aload_n 0, 1) := by decide +kernel
theorem dX8_setUpGoal_54 : decode cX8_setUpGoal 54 = .ok (.getfield 28, 3) := by decide +kernel
theorem dX8_setUpGoal_57 : decode cX8_setUpGoal 57 = .ok (.iload 6, 2) := by decide +kernel
theorem dX8_setUpGoal_59 : decode cX8_setUpGoal 59 = .ok (.iconst 1, 1) := by decide +kernel
theorem dX8_setUpGoal_60 : decode cX8_setUpGoal 60 = .ok (.isub, 1) := by decide +kernel
theorem dX8_setUpGoal_61 : decode cX8_setUpGoal 61 = .ok (.invokevirtual 90, 3) := by decide +kernel
theorem dX8_setUpGoal_64 : decode cX8_setUpGoal 64 = .ok (.lload 7, 2) := by decide +kernel
theorem dX8_setUpGoal_66 : decode cX8_setUpGoal 66 = .ok (.lneg, 1) := by decide +kernel
theorem dX8_setUpGoal_67 : decode cX8_setUpGoal 67 = .ok (.invokevirtual 82, 3) := by decide +kernel
theorem dX8_setUpGoal_70 : decode cX8_setUpGoal 70 = .ok (.iinc 6 1, 3) := by decide +kernel
theorem dX8_setUpGoal_73 : decode cX8_setUpGoal 73 = .ok (.goto (-54), 3) := by decide +kernel
theorem dX8_setUpGoal_76 : decode cX8_setUpGoal 76 = .ok (.aload_n 0, 1) := by decide +kernel
theorem dX8_setUpGoal_77 : decode cX8_setUpGoal 77 = .ok (.aload_n 1, 1) := by decide +kernel
theorem dX8_setUpGoal_78 : decode cX8_setUpGoal 78 = .ok (.getfield 158, 3) := by decide +kernel
theorem dX8_setUpGoal_81 : decode cX8_setUpGoal 81 = .ok (.iconst 0, 1) := by decide +kernel
theorem dX8_setUpGoal_82 : decode cX8_setUpGoal 82 = .ok (.aaload, 1) := by decide +kernel
theorem dX8_setUpGoal_83 : decode cX8_setUpGoal 83 = .ok (.iconst 0, 1) := by decide +kernel
theorem dX8_setUpGoal_84 : decode cX8_setUpGoal 84 = .ok (.laload, 1) := by decide +kernel
theorem dX8_setUpGoal_85 : decode cX8_setUpGoal 85 = .ok (.lload_n 2, 1) := by decide +kernel
theorem dX8_setUpGoal_86 : decode cX8_setUpGoal 86 = .ok (.aload 4, 2) := by decide +kernel
theorem dX8_setUpGoal_88 : decode cX8_setUpGoal 88 = .ok (.iconst 0, 1) := by decide +kernel
theorem dX8_setUpGoal_89 : decode cX8_setUpGoal 89 = .ok (.invokevirtual 167, 3) := by decide +kernel
theorem dX8_setUpGoal_92 : decode cX8_setUpGoal 92 = .ok (.i2l, 1) := by decide +kernel
theorem dX8_setUpGoal_93 : decode cX8_setUpGoal 93 = .ok (.lmul, 1) := by decide +kernel
theorem dX8_setUpGoal_94 : decode cX8_setUpGoal 94 = .ok (.lsub, 1) := by decide +kernel
theorem dX8_setUpGoal_95 : decode cX8_setUpGoal 95 = .ok (.putfield 41, 3) := by decide +kernel
theorem dX8_setUpGoal_98 : decode cX8_setUpGoal 98 = .ok (.iconst 0, 1) := by decide +kernel
theorem dX8_setUpGoal_99 : decode cX8_setUpGoal 99 = .ok (.istore 6, 2) := by decide +kernel
theorem dX8_setUpGoal_101 : decode cX8_setUpGoal 101 = .ok (.iload 6, 2) := by decide +kernel
theorem dX8_setUpGoal_103 : decode cX8_setUpGoal 103 = .ok (.aload 5, 2) := by decide +kernel
theorem dX8_setUpGoal_105 : decode cX8_setUpGoal 105 = .ok (.getfield 117, 3) := by decide +kernel
theorem dX8_setUpGoal_108 : decode cX8_setUpGoal 108 = .ok (.if_icmp .ge 59, 3) := by decide +kernel
theorem dX8_setUpGoal_111 : decode cX8_setUpGoal 111 = .ok (.aload 5, 2) := by decide +kernel
theorem dX8_setUpGoal_113 : decode cX8_setUpGoal 113 = .ok (.getfield 162, 3) := by decide +kernel
theorem dX8_setUpGoal_116 : decode cX8_setUpGoal 116 = .ok (.iload 6, 2) := by decide +kernel
theorem dX8_setUpGoal_118 : decode cX8_setUpGoal 118 = .ok (.iaload, 1) := by decide +kernel
theorem dX8_setUpGoal_119 : decode cX8_setUpGoal 119 = .ok (.ifCond .ne 42, 3) := by decide +kernel
theorem dX8_setUpGoal_122 : decode cX8_setUpGoal 122 = .ok (.aload_n 0, 1) := by decide +kernel
theorem dX8_setUpGoal_123 : decode cX8_setUpGoal 123 = .ok (.aload_n 0, 1) := by decide +kernel
theorem dX8_setUpGoal_124 : decode cX8_setUpGoal 124 = .ok (.getfield 28, 3) := by decide +kernel
theorem dX8_setUpGoal_127 : decode cX8_setUpGoal 127 = .ok (.aload_n 0, 1) := by decide +kernel
theorem dX8_setUpGoal_128 : decode cX8_setUpGoal 128 = .ok (.getfield 35, 3) := by decide +kernel
theorem dX8_setUpGoal_131 : decode cX8_setUpGoal 131 = .ok (.iconst 1, 1) := by decide +kernel
theorem dX8_setUpGoal_132 : decode cX8_setUpGoal 132 = .ok (.isub, 1) := by decide +kernel
theorem dX8_setUpGoal_133 : decode cX8_setUpGoal 133 = .ok (.iload 6, 2) := by decide +kernel
theorem dX8_setUpGoal_135 : decode cX8_setUpGoal 135 = .ok (.iadd, 1) := by decide +kernel
theorem dX8_setUpGoal_136 : decode cX8_setUpGoal 136 = .ok (.invokevirtual 90, 3) := by decide +kernel
theorem dX8_setUpGoal_139 : decode cX8_setUpGoal 139 = .ok (.ldc2_w 165, 3) := by decide +kernel
theorem dX8_setUpGoal_142 : decode cX8_setUpGoal 142 = .ok (.invokevirtual 82, 3) := by decide +kernel
theorem dX8_setUpGoal_145 : decode cX8_setUpGoal 145 = .ok (.aload_n 0, 1) := by decide +kernel
theorem dX8_setUpGoal_146 : decode cX8_setUpGoal 146 = .ok (.dup, 1) := by decide +kernel
theorem dX8_setUpGoal_147 : decode cX8_setUpGoal 147 = .ok (.getfield 41, 3) := by decide +kernel
theorem dX8_setUpGoal_150 : decode cX8_setUpGoal 150 = .ok (.aload_n 0, 1) := by decide +kernel
theorem dX8_setUpGoal_151 : decode cX8_setUpGoal 151 = .ok (.getfield 24, 3) := by decide +kernel
theorem dX8_setUpGoal_154 : decode cX8_setUpGoal 154 = .ok (.iload 6, 2) := by decide +kernel
theorem dX8_setUpGoal_156 : decode cX8_setUpGoal 156 = .ok (.laload, 1) := by decide +kernel
theorem dX8_setUpGoal_157 : decode cX8_setUpGoal 157 = .ok (.lsub, 1) := by decide +kernel
theorem dX8_setUpGoal_158 : decode cX8_setUpGoal 158 = .ok (.putfield 41, 3) := by decide +kernel
theorem dX8_setUpGoal_161 : decode cX8_setUpGoal 161 = .ok (.iinc 6 1, 3) := by decide +kernel
theorem dX8_setUpGoal_164 : decode cX8_setUpGoal 164 = .ok (.goto (-63), 3) := by decide +kernel
theorem dX8_setUpGoal_167 : decode cX8_setUpGoal 167 = .ok (.return_, 1) := by decide +kernel
set_option maxRecDepth 20000 in
theorem ggX8_entering_X8_cell : GoodIn wsX8_entering wsX8_cell := goodIn_s _ [(9, 15)] rfl (by decide +kernel)
set_option maxRecDepth 20000 in
theorem gX8_entering_X8_cell : GoodIn wsX8_entering (wsV RX8 90 RX8 yX8_cell wsX8_cell) := goodIn_app (goodIn_r _ [5, 6, 7, 8] rfl (by decide +kernel)) ggX8_entering_X8_cell
theorem dX8_entering_0 : decode cX8_entering 0 = .ok (.iconst (-1), 1) := by decide +kernel
theorem dX8_entering_1 : decode cX8_entering 1 = .ok (.istore_n 1, 1) := by decide +kernel
theorem dX8_entering_2 : decode cX8_entering 2 = .ok (.iconst 0, 1) := by decide +kernel
theorem dX8_entering_3 : decode cX8_entering 3 = .ok (.istore_n 2, 1) := by decide +kernel
theorem dX8_entering_4 : decode cX8_entering 4 = .ok (.iload_n 2, 1) := by decide +kernel
theorem dX8_entering_5 : decode cX8_entering 5 = .ok (.aload_n 0, 1) := by decide +kernel
theorem dX8_entering_6 : decode cX8_entering 6 = .ok (.getfield 32, 3) := by decide +kernel
theorem dX8_entering_9 : decode cX8_entering 9 = .ok (.if_icmp .ge 46, 3) := by decide +kernel
theorem dX8_entering_12 : decode cX8_entering 12 = .ok (.aload_n 0, 1) := by decide +kernel
theorem dX8_entering_13 : decode cX8_entering 13 = .ok (.aload_n 0, 1) := by decide +kernel
theorem dX8_entering_14 : decode cX8_entering 14 = .ok (.getfield 28, 3) := by decide +kernel
theorem dX8_entering_17 : decode cX8_entering 17 = .ok (.iload_n 2, 1) := by decide +kernel
theorem dX8_entering_18 : decode cX8_entering 18 = .ok (.invokevirtual 90, 3) := by decide +kernel
theorem dX8_entering_21 : decode cX8_entering 21 = .ok (.getfield 170, 3) := by decide +kernel
theorem dX8_entering_24 : decode cX8_entering 24 = .ok (.ifCond .eq 25, 3) := by decide +kernel
theorem dX8_entering_27 : decode cX8_entering 27 = .ok (.iload_n 1, 1) := by decide +kernel
theorem dX8_entering_28 : decode cX8_entering 28 = .ok (.iconst (-1), 1) := by decide +kernel
theorem dX8_entering_29 : decode cX8_entering 29 = .ok (.if_icmp .eq 18, 3) := by decide +kernel
theorem dX8_entering_32 : decode cX8_entering 32 = .ok (.aload_n 0, 1) := by decide +kernel
theorem dX8_entering_33 : decode cX8_entering 33 = .ok (.getfield 21, 3) := by decide +kernel
theorem dX8_entering_36 : decode cX8_entering 36 = .ok (.iload_n 2, 1) := by decide +kernel
theorem dX8_entering_37 : decode cX8_entering 37 = .ok (.iaload, 1) := by decide +kernel
theorem dX8_entering_38 : decode cX8_entering 38 = .ok (.aload_n 0, 1) := by decide +kernel
theorem dX8_entering_39 : decode cX8_entering 39 = .ok (.getfield 21, 3) := by decide +kernel
theorem dX8_entering_42 : decode cX8_entering 42 = .ok (.iload_n 1, 1) := by decide +kernel
theorem dX8_entering_43 : decode cX8_entering 43 = .ok (.iaload, 1) := by decide +kernel
theorem dX8_entering_44 : decode cX8_entering 44 = .ok (.if_icmp .ge 5, 3) := by decide +kernel
theorem dX8_entering_47 : decode cX8_entering 47 = .ok (.iload_n 2, 1) := by decide +kernel
theorem dX8_entering_48 : decode cX8_entering 48 = .ok (.istore_n 1, 1) := by decide +kernel
theorem dX8_entering_49 : decode cX8_entering 49 = .ok (.iinc 2 1, 3) := by decide +kernel
theorem dX8_entering_52 : decode cX8_entering 52 = .ok (.goto (-48), 3) := by decide +kernel
theorem dX8_entering_55 : decode cX8_entering 55 = .ok (.iload_n 1, 1) := by decide +kernel
theorem dX8_entering_56 : decode cX8_entering 56 = .ok (.ireturn, 1) := by decide +kernel
set_option maxRecDepth 20000 in
theorem ggX8_leaving_X8_cell : GoodIn wsX8_leaving wsX8_cell := goodIn_s _ [(6, 2), (54, 13)] rfl (by decide +kernel)
set_option maxRecDepth 20000 in
theorem gX8_leaving_X8_cell : GoodIn wsX8_leaving (wsV RX8 90 RX8 yX8_cell wsX8_cell) := goodIn_app (goodIn_r _ [2, 3, 4, 5] rfl (by decide +kernel)) ggX8_leaving_X8_cell
set_option maxRecDepth 20000 in
theorem ggX8_leaving_X0_sign : GoodIn wsX8_leaving wsX0_sign := goodIn_s _ [(12, 3), (67, 3)] rfl (by decide +kernel)
set_option maxRecDepth 20000 in
theorem gX8_leaving_X0_sign : GoodIn wsX8_leaving (wsV RX8 174 RX0 yX0_sign wsX0_sign) := goodIn_app (goodIn_r _ [8, 9, 10, 11] rfl (by decide +kernel)) ggX8_leaving_X0_sign
set_option maxRecDepth 20000 in
theorem ggX8_leaving_X8_leavesBefore : GoodIn wsX8_leaving wsX8_leavesBefore := goodIn_s _ [(18, 5), (2, 6), (23, 3), (11, 1), (26, 1), (13, 1), (27, 5), (14, 1), (32, 18), (9, 2), (12, 1), (50, 20)] rfl (by decide +kernel)
