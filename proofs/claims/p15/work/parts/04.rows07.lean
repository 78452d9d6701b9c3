theorem dX7_begin_15 : decode cX7_begin 15 = .ok (.iload_n 1, 1) := by decide +kernel
theorem dX7_begin_16 : decode cX7_begin 16 = .ok (.iastore, 1) := by decide +kernel
theorem dX7_begin_17 : decode cX7_begin 17 = .ok (.aload_n 0, 1) := by decide +kernel
theorem dX7_begin_18 : decode cX7_begin 18 = .ok (.getfield 19, 3) := by decide +kernel
theorem dX7_begin_21 : decode cX7_begin 21 = .ok (.iload_n 3, 1) := by decide +kernel
theorem dX7_begin_22 : decode cX7_begin 22 = .ok (.iconst 0, 1) := by decide +kernel
theorem dX7_begin_23 : decode cX7_begin 23 = .ok (.iastore, 1) := by decide +kernel
theorem dX7_begin_24 : decode cX7_begin 24 = .ok (.aload_n 0, 1) := by decide +kernel
theorem dX7_begin_25 : decode cX7_begin 25 = .ok (.getfield 25, 3) := by decide +kernel
theorem dX7_begin_28 : decode cX7_begin 28 = .ok (.iload_n 3, 1) := by decide +kernel
theorem dX7_begin_29 : decode cX7_begin 29 = .ok (.iload_n 2, 1) := by decide +kernel
theorem dX7_begin_30 : decode cX7_begin 30 = .ok (.iastore, 1) := by decide +kernel
theorem dX7_begin_31 : decode cX7_begin 31 = .ok (.aload_n 0, 1) := by decide +kernel
theorem dX7_begin_32 : decode cX7_begin 32 = .ok (.getfield 22, 3) := by decide +kernel
theorem dX7_begin_35 : decode cX7_begin 35 = .ok (.iload_n 3, 1) := by decide +kernel
theorem dX7_begin_36 : decode cX7_begin 36 = .ok (.iload_n 2, 1) := by decide +kernel
theorem dX7_begin_37 : decode cX7_begin 37 = .ok (.iconst (-1), 1) := by decide +kernel
theorem dX7_begin_38 : decode cX7_begin 38 = .ok (.if_icmp .ne 7, 3) := by decide +kernel
theorem dX7_begin_41 : decode cX7_begin 41 = .ok (.iconst 0, 1) := by decide +kernel
theorem dX7_begin_42 : decode cX7_begin 42 = .ok (.goto 14, 3) := by decide +kernel
theorem dX7_begin_45 : decode cX7_begin 45 = .ok (.aload_n 0, 1) := by decide +kernel
theorem dX7_begin_46 : decode cX7_begin 46 = .ok (.getfield 22, 3) := by decide +kernel
theorem dX7_begin_49 : decode cX7_begin 49 = .ok (.iload_n 2, 1) := by decide +kernel
theorem dX7_begin_50 : decode cX7_begin 50 = .ok (.invokestatic 47, 3) := by decide +kernel
theorem dX7_begin_53 : decode cX7_begin 53 = .ok (.iaload, 1) := by decide +kernel
theorem dX7_begin_54 : decode cX7_begin 54 = .ok (.iconst 1, 1) := by decide +kernel
theorem dX7_begin_55 : decode cX7_begin 55 = .ok (.iadd, 1) := by decide +kernel
theorem dX7_begin_56 : decode cX7_begin 56 = .ok (.iastore, 1) := by decide +kernel
theorem dX7_begin_57 : decode cX7_begin 57 = .ok (.aload_n 0, 1) := by decide +kernel
theorem dX7_begin_58 : decode cX7_begin 58 = .ok (.iload_n 3, 1) := by decide +kernel
theorem dX7_begin_59 : decode cX7_begin 59 = .ok (.iconst 1, 1) := by decide +kernel
theorem dX7_begin_60 : decode cX7_begin 60 = .ok (.iadd, 1) := by decide +kernel
theorem dX7_begin_61 : decode cX7_begin 61 = .ok (.putfield 9, 3) := by decide +kernel
theorem dX7_begin_64 : decode cX7_begin 64 = .ok (.iload_n 3, 1) := by decide +kernel
theorem dX7_begin_65 : decode cX7_begin 65 = .ok (.ireturn, 1) := by decide +kernel
theorem dX7_countPlans_0 : decode cX7_countPlans 0 = .ok (.iconst 1, 1) := by decide +kernel
theorem dX7_countPlans_1 : decode cX7_countPlans 1 = .ok (.istore_n 1, 1) := by decide +kernel
theorem dX7_countPlans_2 : decode cX7_countPlans 2 = .ok (.iconst 0, 1) := by decide +kernel
theorem dX7_countPlans_3 : decode cX7_countPlans 3 = .ok (.istore_n 2, 1) := by decide +kernel
theorem dX7_countPlans_4 : decode cX7_countPlans 4 = .ok (.iload_n 2, 1) := by decide +kernel
theorem dX7_countPlans_5 : decode cX7_countPlans 5 = .ok (.aload_n 0, 1) := by decide +kernel
theorem dX7_countPlans_6 : decode cX7_countPlans 6 = .ok (.getfield 9, 3) := by decide +kernel
theorem dX7_countPlans_9 : decode cX7_countPlans 9 = .ok (.if_icmp .ge 18, 3) := by decide +kernel
theorem dX7_countPlans_12 : decode cX7_countPlans 12 = .ok (.iload_n 1, 1) := by decide +kernel
theorem dX7_countPlans_13 : decode cX7_countPlans 13 = .ok (.aload_n 0, 1) := by decide +kernel
theorem dX7_countPlans_14 : decode cX7_countPlans 14 = .ok (.getfield 19, 3) := by decide +kernel
theorem dX7_countPlans_17 : decode cX7_countPlans 17 = .ok (.iload_n 2, 1) := by decide +kernel
theorem dX7_countPlans_18 : decode cX7_countPlans 18 = .ok (.iaload, 1) := by decide +kernel
theorem dX7_countPlans_19 : decode cX7_countPlans 19 = .ok (.imul, 1) := by decide +kernel
theorem dX7_countPlans_20 : decode cX7_countPlans 20 = .ok (.istore_n 1, 1) := by decide +kernel
theorem dX7_countPlans_21 : decode cX7_countPlans 21 = .ok (.iinc 2 1, 3) := by decide +kernel
theorem dX7_countPlans_24 : decode cX7_countPlans 24 = .ok (.goto (-20), 3) := by decide +kernel
theorem dX7_countPlans_27 : decode cX7_countPlans 27 = .ok (.iload_n 1, 1) := by decide +kernel
theorem dX7_countPlans_28 : decode cX7_countPlans 28 = .ok (.ireturn, 1) := by decide +kernel
set_option maxRecDepth 20000 in
theorem ggX7_numberLines_X7_lineOf : GoodIn wsX7_numberLines wsX7_lineOf := goodIn_s _ [(11, 1), (3, 1), (12, 2), (10, 1), (14, 12)] rfl (by decide +kernel)
set_option maxRecDepth 20000 in
theorem gX7_numberLines_X7_lineOf : GoodIn wsX7_numberLines (wsV RX7 51 RX7 yX7_lineOf wsX7_lineOf) := goodIn_app (goodIn_r _ [7, 8, 9, 10] rfl (by decide +kernel)) ggX7_numberLines_X7_lineOf
theorem dX7_numberLines_0 : decode cX7_numberLines 0 = .ok (.aload_n 0, 1) := by decide +kernel
theorem dX7_numberLines_1 : decode cX7_numberLines 1 = .ok (.iconst 1, 1) := by decide +kernel
theorem dX7_numberLines_2 : decode cX7_numberLines 2 = .ok (.putfield 28, 3) := by decide +kernel
theorem dX7_numberLines_5 : decode cX7_numberLines 5 = .ok (.iconst 0, 1) := by decide +kernel
theorem dX7_numberLines_6 : decode cX7_numberLines 6 = .ok (.istore_n 1, 1) := by decide +kernel
theorem dX7_numberLines_7 : decode cX7_numberLines 7 = .ok (.iload_n 1, 1) := by decide +kernel
theorem dX7_numberLines_8 : decode cX7_numberLines 8 = .ok (.aload_n 0, 1) := by decide +kernel
theorem dX7_numberLines_9 : decode cX7_numberLines 9 = .ok (.getfield 9, 3) := by decide +kernel
theorem dX7_numberLines_12 : decode cX7_numberLines 12 = .ok (.if_icmp .ge 50, 3) := by decide +kernel
theorem dX7_numberLines_15 : decode cX7_numberLines 15 = .ok (.aload_n 0, 1) := by decide +kernel
theorem dX7_numberLines_16 : decode cX7_numberLines 16 = .ok (.getfield 31, 3) := by decide +kernel
theorem dX7_numberLines_19 : decode cX7_numberLines 19 = .ok (.iload_n 1, 1) := by decide +kernel
theorem dX7_numberLines_20 : decode cX7_numberLines 20 = .ok (.aload_n 0, 1) := by decide +kernel
theorem dX7_numberLines_21 : decode cX7_numberLines 21 = .ok (.getfield 28, 3) := by decide +kernel
theorem dX7_numberLines_24 : decode cX7_numberLines 24 = .ok (.iastore, 1) := by decide +kernel
theorem dX7_numberLines_25 : decode cX7_numberLines 25 = .ok (.aload_n 0, 1) := by decide +kernel
theorem dX7_numberLines_26 : decode cX7_numberLines 26 = .ok (.dup, 1) := by decide +kernel
theorem dX7_numberLines_27 : decode cX7_numberLines 27 = .ok (.getfield 28, 3) := by decide +kernel
theorem dX7_numberLines_30 : decode cX7_numberLines 30 = .ok (.aload_n 0, 1) := by decide +kernel
theorem dX7_numberLines_31 : decode cX7_numberLines 31 = .ok (.getfield 19, 3) := by decide +kernel
theorem dX7_numberLines_34 : decode cX7_numberLines 34 = .ok (.iload_n 1, 1) := by decide +kernel
theorem dX7_numberLines_35 : decode cX7_numberLines 35 = .ok (.iaload, 1) := by decide +kernel
theorem dX7_numberLines_36 : decode cX7_numberLines 36 = .ok (.iadd, 1) := by decide +kernel
theorem dX7_numberLines_37 : decode cX7_numberLines 37 = .ok (.putfield 28, 3) := by decide +kernel
theorem dX7_numberLines_40 : decode cX7_numberLines 40 = .ok (.aload_n 0, 1) := by decide +kernel
theorem dX7_numberLines_41 : decode cX7_numberLines 41 = .ok (.getfield 34, 3) := by decide +kernel
theorem dX7_numberLines_44 : decode cX7_numberLines 44 = .ok (.iload_n 1, 1) := by decide +kernel
theorem dX7_numberLines_45 : decode cX7_numberLines 45 = .ok (.aload_n 0, 1) := by decide +kernel
theorem dX7_numberLines_46 : decode cX7_numberLines 46 = .ok (.aload_n 0, 1) := by decide +kernel
theorem dX7_numberLines_47 : decode cX7_numberLines 47 = .ok (.getfield 25, 3) := by decide +kernel
theorem dX7_numberLines_50 : decode cX7_numberLines 50 = .ok (.iload_n 1, 1) := by decide +kernel
theorem dX7_numberLines_51 : decode cX7_numberLines 51 = .ok (.iaload, 1) := by decide +kernel
theorem dX7_numberLines_52 : decode cX7_numberLines 52 = .ok (.invokevirtual 51, 3) := by decide +kernel
theorem dX7_numberLines_55 : decode cX7_numberLines 55 = .ok (.iastore, 1) := by decide +kernel
theorem dX7_numberLines_56 : decode cX7_numberLines 56 = .ok (.iinc 1 1, 3) := by decide +kernel
theorem dX7_numberLines_59 : decode cX7_numberLines 59 = .ok (.goto (-52), 3) := by decide +kernel
theorem dX7_numberLines_62 : decode cX7_numberLines 62 = .ok (.return_, 1) := by decide +kernel
set_option maxRecDepth 20000 in
theorem ggX7_lineOf_X7_setOf : GoodIn wsX7_lineOf wsX7_setOf := goodIn_r _ [5] rfl (by decide +kernel)
set_option maxRecDepth 20000 in
theorem gX7_lineOf_X7_setOf : GoodIn wsX7_lineOf (va_wsS RX7 47 yX7_setOf wsX7_setOf) := goodIn_app (goodIn_r _ [2, 3, 4] rfl (by decide +kernel)) ggX7_lineOf_X7_setOf
set_option maxRecDepth 20000 in
theorem ggX7_lineOf_X7_moveOf : GoodIn wsX7_lineOf wsX7_moveOf := goodIn_r _ [8] rfl (by decide +kernel)
set_option maxRecDepth 20000 in
theorem gX7_lineOf_X7_moveOf : GoodIn wsX7_lineOf (va_wsS RX7 54 yX7_moveOf wsX7_moveOf) := goodIn_app (goodIn_r _ [6, 7, 4] rfl (by decide +kernel)) ggX7_lineOf_X7_moveOf
theorem dX7_lineOf_0 : decode cX7_lineOf 0 = .ok (.iload_n 1, 1) := by decide +kernel
theorem dX7_lineOf_1 : decode cX7_lineOf 1 = .ok (.iconst (-1), 1) := by decide +kernel
theorem dX7_lineOf_2 : decode cX7_lineOf 2 = .ok (.if_icmp .ne 7, 3) := by decide +kernel
theorem dX7_lineOf_5 : decode cX7_lineOf 5 = .ok (.iconst 0, 1) := by decide +kernel
theorem dX7_lineOf_6 : decode cX7_lineOf 6 = .ok (.goto 17, 3) := by decide +kernel
theorem dX7_lineOf_9 : decode cX7_lineOf 9 = .ok (.aload_n 0, 1) := by decide +kernel
theorem dX7_lineOf_10 : decode cX7_lineOf 10 = .ok (.getfield 31, 3) := by decide +kernel
theorem dX7_lineOf_13 : decode cX7_lineOf 13 = .ok (.iload_n 1, 1) := by decide +kernel
theorem dX7_lineOf_14 : decode cX7_lineOf 14 = .ok (.invokestatic 47, 3) := by decide +kernel
theorem dX7_lineOf_17 : decode cX7_lineOf 17 = .ok (.iaload, 1) := by decide +kernel
theorem dX7_lineOf_18 : decode cX7_lineOf 18 = .ok (.iload_n 1, 1) := by decide +kernel
theorem dX7_lineOf_19 : decode cX7_lineOf 19 = .ok (.invokestatic 54, 3) := by decide +kernel
theorem dX7_lineOf_22 : decode cX7_lineOf 22 = .ok (.iadd, 1) := by decide +kernel
theorem dX7_lineOf_23 : decode cX7_lineOf 23 = .ok (.ireturn, 1) := by decide +kernel
theorem dX7_countChildren_0 : decode cX7_countChildren 0 = .ok (.iconst 0, 1) := by decide +kernel
theorem dX7_countChildren_1 : decode cX7_countChildren 1 = .ok (.istore_n 2, 1) := by decide +kernel
theorem dX7_countChildren_2 : decode cX7_countChildren 2 = .ok (.iconst 0, 1) := by decide +kernel
theorem dX7_countChildren_3 : decode cX7_countChildren 3 = .ok (.istore_n 3, 1) := by decide +kernel
theorem dX7_countChildren_4 : decode cX7_countChildren 4 = .ok (.iload_n 3, 1) := by decide +kernel
theorem dX7_countChildren_5 : decode cX7_countChildren 5 = .ok (.aload_n 0, 1) := by decide +kernel
theorem dX7_countChildren_6 : decode cX7_countChildren 6 = .ok (.getfield 9, 3) := by decide +kernel
theorem dX7_countChildren_9 : decode cX7_countChildren 9 = .ok (.if_icmp .ge 22, 3) := by decide +kernel
theorem dX7_countChildren_12 : decode cX7_countChildren 12 = .ok (.aload_n 0, 1) := by decide +kernel
theorem dX7_countChildren_13 : decode cX7_countChildren 13 = .ok (.getfield 34, 3) := by decide +kernel
theorem dX7_countChildren_16 : decode cX7_countChildren 16 = .ok (.iload_n 3, 1) := by decide +kernel
theorem dX7_countChildren_17 : decode cX7_countChildren 17 = .ok (.iaload, 1) := by decide +kernel
theorem dX7_countChildren_18 : decode cX7_countChildren 18 = .ok (.iload_n 1, 1) := by decide +kernel
theorem dX7_countChildren_19 : decode cX7_countChildren 19 = .ok (.if_icmp .ne 6, 3) := by decide +kernel
theorem dX7_countChildren_22 : decode cX7_countChildren 22 = .ok (.iinc 2 1, 3) := by decide +kernel
theorem dX7_countChildren_25 : decode cX7_countChildren 25 = .ok (.iinc 3 1, 3) := by decide +kernel
theorem dX7_countChildren_28 : decode cX7_countChildren 28 = .ok (.goto (-24), 3) := by decide +kernel
theorem dX7_countChildren_31 : decode cX7_countChildren 31 = .ok (.iload_n 2, 1) := by decide +kernel
theorem dX7_countChildren_32 : decode cX7_countChildren 32 = .ok (.ireturn, 1) := by decide +kernel
set_option maxRecDepth 20000 in
theorem ggX8_init_X0_init : GoodIn wsX8_init wsX0_init := goodIn_s _ [(27, 2), (2, 2), (29, 2), (6, 1), (31, 1), (53, 3)] rfl (by decide +kernel)
set_option maxRecDepth 20000 in
theorem gX8_init_X0_init : GoodIn wsX8_init (wsX0_init) := ggX8_init_X0_init
set_option maxRecDepth 20000 in
theorem ggX8_init_X1_init : GoodIn wsX8_init wsX1_init := goodIn_s _ [(33, 2), (2, 2), (35, 1), (16, 2), (36, 4), (26, 5), (6, 1), (31, 1), (53, 6)] rfl (by decide +kernel)
set_option maxRecDepth 20000 in
theorem gX8_init_X1_init_n60 : GoodIn wsX8_init (wsX1_init) := ggX8_init_X1_init
theorem dX8_init_0 : decode cX8_init 0 = .ok (.aload_n 0, 1) := by decide +kernel
theorem dX8_init_1 : decode cX8_init 1 = .ok (.invokespecial 3, 3) := by decide +kernel
theorem dX8_init_4 : decode cX8_init 4 = .ok (.aload_n 0, 1) := by decide +kernel
theorem dX8_init_5 : decode cX8_init 5 = .ok (.sipush 900, 3) := by decide +kernel
theorem dX8_init_8 : decode cX8_init 8 = .ok (.anewarray 11, 3) := by decide +kernel
theorem dX8_init_11 : decode cX8_init 11 = .ok (.putfield 13, 3) := by decide +kernel
theorem dX8_init_14 : decode cX8_init 14 = .ok (.aload_n 0, 1) := by decide +kernel
theorem dX8_init_15 : decode cX8_init 15 = .ok (.bipush 30, 2) := by decide +kernel
theorem dX8_init_17 : decode cX8_init 17 = .ok (.newarray .int, 2) := by decide +kernel
theorem dX8_init_19 : decode cX8_init 19 = .ok (.putfield 17, 3) := by decide +kernel
theorem dX8_init_22 : decode cX8_init 22 = .ok (.aload_n 0, 1) := by decide +kernel
theorem dX8_init_23 : decode cX8_init 23 = .ok (.bipush 30, 2) := by decide +kernel
theorem dX8_init_25 : decode cX8_init 25 = .ok (.newarray .int, 2) := by decide +kernel
theorem dX8_init_27 : decode cX8_init 27 = .ok (.putfield 21, 3) := by decide +kernel
theorem dX8_init_30 : decode cX8_init 30 = .ok (.aload_n 0, 1) := by decide +kernel
theorem dX8_init_31 : decode cX8_init 31 = .ok (.bipush 10, 2) := by decide +kernel
theorem dX8_init_33 : decode cX8_init 33 = .ok (.newarray .long, 2) := by decide +kernel
theorem dX8_init_35 : decode cX8_init 35 = .ok (.putfield 24, 3) := by decide +kernel
theorem dX8_init_38 : decode cX8_init 38 = .ok (.aload_n 0, 1) := by decide +kernel
theorem dX8_init_39 : decode cX8_init 39 = .ok (.iconst 0, 1) := by decide +kernel
theorem dX8_init_40 : decode cX8_init 40 = .ok (.putfield 28, 3) := by decide +kernel
theorem dX8_init_43 : decode cX8_init 43 = .ok (.aload_n 0, 1) := by decide +kernel
theorem dX8_init_44 : decode cX8_init 44 = .ok (.iconst 0, 1) := by decide +kernel
theorem dX8_init_45 : decode cX8_init 45 = .ok (.putfield 32, 3) := by decide +kernel
theorem dX8_init_48 : decode cX8_init 48 = .ok (.aload_n 0, 1) := by decide +kernel
theorem dX8_init_49 : decode cX8_init 49 = .ok (.iconst 1, 1) := by decide +kernel
theorem dX8_init_50 : decode cX8_init 50 = .ok (.putfield 35, 3) := by decide +kernel
theorem dX8_init_53 : decode cX8_init 53 = .ok (.aload_n 0, 1) := by decide +kernel
theorem dX8_init_54 : decode cX8_init 54 = .ok (.iconst 1, 1) := by decide +kernel
theorem dX8_init_55 : decode cX8_init 55 = .ok (.putfield 38, 3) := by decide +kernel
theorem dX8_init_58 : decode cX8_init 58 = .ok (.aload_n 0, 1) := by decide +kernel
theorem dX8_init_59 : decode cX8_init 59 = .ok (.lconst 0, 1) := by decide +kernel
theorem dX8_init_60 : decode cX8_init 60 = .ok (.putfield 41, 3) := by decide +kernel
theorem dX8_init_63 : decode cX8_init 63 = .ok (.aload_n 0, 1) := by decide +kernel
theorem dX8_init_64 : decode cX8_init 64 = .ok (.new 11, 3) := by decide +kernel
theorem dX8_init_67 : decode cX8_init 67 = .ok (.dup, 1) := by decide +kernel
theorem dX8_init_68 : decode cX8_init 68 = .ok (.bipush 32, 2) := by decide +kernel
theorem dX8_init_70 : decode cX8_init 70 = .ok (.invokespecial 45, 3) := by decide +kernel
theorem dX8_init_73 : decode cX8_init 73 = .ok (.putfield 48, 3) := by decide +kernel
theorem dX8_init_76 : decode cX8_init 76 = .ok (.aload_n 0, 1) := by decide +kernel
theorem dX8_init_77 : decode cX8_init 77 = .ok (.new 11, 3) := by decide +kernel
theorem dX8_init_80 : decode cX8_init 80 = .ok (.dup, 1) := by decide +kernel
theorem dX8_init_81 : decode cX8_init 81 = .ok (.bipush 64, 2) := by decide +kernel
theorem dX8_init_83 : decode cX8_init 83 = .ok (.invokespecial 45, 3) := by decide +kernel
theorem dX8_init_86 : decode cX8_init 86 = .ok (.putfield 52, 3) := by decide +kernel
theorem dX8_init_89 : decode cX8_init 89 = .ok (.aload_n 0, 1) := by decide +kernel
theorem dX8_init_90 : decode cX8_init 90 = .ok (.new 11, 3) := by decide +kernel
theorem dX8_init_93 : decode cX8_init 93 = .ok (.dup, 1) := by decide +kernel
theorem dX8_init_94 : decode cX8_init 94 = .ok (.bipush 64, 2) := by decide +kernel
theorem dX8_init_96 : decode cX8_init 96 = .ok (.invokespecial 45, 3) := by decide +kernel
theorem dX8_init_99 : decode cX8_init 99 = .ok (.putfield 55, 3) := by decide +kernel
theorem dX8_init_102 : decode cX8_init 102 = .ok (.aload_n 0, 1) := by decide +kernel
theorem dX8_init_103 : decode cX8_init 103 = .ok (.new 58, 3) := by decide +kernel
theorem dX8_init_106 : decode cX8_init 106 = .ok (.dup, 1) := by decide +kernel
theorem dX8_init_107 : decode cX8_init 107 = .ok (.invokespecial 60, 3) := by decide +kernel
theorem dX8_init_110 : decode cX8_init 110 = .ok (.putfield 61, 3) := by decide +kernel
theorem dX8_init_113 : decode cX8_init 113 = .ok (.iconst 0, 1) := by decide +kernel
theorem dX8_init_114 : decode cX8_init 114 = .ok (.istore_n 1, 1) := by decide +kernel
theorem dX8_init_115 : decode cX8_init 115 = .ok (.iload_n 1, 1) := by decide +kernel
theorem dX8_init_116 : decode cX8_init 116 = .ok (.sipush 900, 3) := by decide +kernel
theorem dX8_init_119 : decode cX8_init 119 = .ok (.if_icmp .ge 24, 3) := by decide +kernel
theorem dX8_init_122 : decode cX8_init 122 = .ok (.aload_n 0, 1) := by decide +kernel
theorem dX8_init_123 : decode cX8_init 123 = .ok (.getfield 13, 3) := by decide +kernel
theorem dX8_init_126 : decode cX8_init 126 = .ok (.iload_n 1, 1) := by decide +kernel
theorem dX8_init_127 : decode cX8_init 127 = .ok (.new 11, 3) := by decide +kernel
theorem dX8_init_130 : decode cX8_init 130 = .ok (.dup, 1) := by decide +kernel
theorem dX8_init_131 : decode cX8_init 131 = .ok (.bipush 32, 2) := by decide +kernel
theorem dX8_init_133 : decode cX8_init 133 = .ok (.invokespecial 45, 3) := by decide +kernel
theorem dX8_init_136 : decode cX8_init 136 = .ok (.aastore, 1) := by decide +kernel
theorem dX8_init_137 : decode cX8_init 137 = .ok (.iinc 1 1, 3) := by decide +kernel
theorem dX8_init_140 : decode cX8_init 140 = .ok (.goto (-25), 3) := by decide +kernel
theorem dX8_init_143 : decode cX8_init 143 = .ok (.return_, 1) := by decide +kernel
theorem dX8_cell_0 : decode cX8_cell 0 = .ok (.aload_n 0, 1) := by decide +kernel
theorem dX8_cell_1 : decode cX8_cell 1 = .ok (.getfield 13, 3) := by decide +kernel
theorem dX8_cell_4 : decode cX8_cell 4 = .ok (.iload_n 1, 1) := by decide +kernel
theorem dX8_cell_5 : decode cX8_cell 5 = .ok (.bipush 30, 2) := by decide +kernel
theorem dX8_cell_7 : decode cX8_cell 7 = .ok (.imul, 1) := by decide +kernel
theorem dX8_cell_8 : decode cX8_cell 8 = .ok (.iload_n 2, 1) := by decide +kernel
theorem dX8_cell_9 : decode cX8_cell 9 = .ok (.iadd, 1) := by decide +kernel
theorem dX8_cell_10 : decode cX8_cell 10 = .ok (.aaload, 1) := by decide +kernel
theorem dX8_cell_11 : decode cX8_cell 11 = .ok (.areturn, 1) := by decide +kernel
set_option maxRecDepth 20000 in
theorem ggX8_work_X8_setUp : GoodIn wsX8_work wsX8_setUp := goodIn_s _ [(6, 23), (5, 1), (29, 55), (210, 28)] rfl (by decide +kernel)
set_option maxRecDepth 20000 in
theorem gX8_work_X8_setUp : GoodIn wsX8_work (wsV RX8 65 RX8 yX8_setUp wsX8_setUp) := goodIn_app (goodIn_r _ [2, 3, 4, 5] rfl (by decide +kernel)) ggX8_work_X8_setUp
set_option maxRecDepth 20000 in
theorem ggX8_work_X8_entering : GoodIn wsX8_work wsX8_entering := goodIn_s _ [(87, 1), (13, 1), (12, 1), (88, 1), (31, 1), (33, 3), (5, 1), (36, 2), (222, 16)] rfl (by decide +kernel)
set_option maxRecDepth 20000 in
theorem gX8_work_X8_entering : GoodIn wsX8_work (wsV RX8 70 RX8 yX8_entering wsX8_entering) := goodIn_app (goodIn_r _ [84, 85, 86, 5] rfl (by decide +kernel)) ggX8_work_X8_entering
set_option maxRecDepth 20000 in
theorem ggX8_work_X8_leaving : GoodIn wsX8_work wsX8_leaving := goodIn_s _ [(92, 1), (12, 1), (33, 3), (5, 1), (36, 2), (93, 3), (41, 1), (96, 1), (44, 1), (43, 1), (97, 5), (13, 1), (102, 1), (30, 1), (103, 4), (45, 1), (107, 2), (24, 1), (109, 23), (222, 16)] rfl (by decide +kernel)
set_option maxRecDepth 20000 in
theorem gX8_work_X8_leaving : GoodIn wsX8_work (wsV RX8 74 RX8 yX8_leaving wsX8_leaving) := goodIn_app (goodIn_r _ [89, 90, 91, 5] rfl (by decide +kernel)) ggX8_work_X8_leaving
set_option maxRecDepth 20000 in
theorem ggX8_work_X8_exchange : GoodIn wsX8_work wsX8_exchange := goodIn_s _ [(135, 2), (32, 1), (12, 2), (101, 1), (30, 2), (137, 13), (41, 1), (150, 1), (44, 2), (107, 2), (24, 1), (109, 1), (151, 4), (43, 1), (155, 16), (110, 5), (119, 4), (33, 3), (5, 1), (36, 2), (171, 5), (102, 5), (115, 4), (176, 13), (128, 4), (189, 21), (222, 13), (238, 3), (235, 3)] rfl (by decide +kernel)
set_option maxRecDepth 20000 in
theorem gX8_work_X8_exchange : GoodIn wsX8_work (wsV RX8 78 RX8 yX8_exchange wsX8_exchange) := goodIn_app (goodIn_r _ [132, 133, 134, 5] rfl (by decide +kernel)) ggX8_work_X8_exchange
theorem dX8_work_0 : decode cX8_work 0 = .ok (.aload_n 0, 1) := by decide +kernel
theorem dX8_work_1 : decode cX8_work 1 = .ok (.aload_n 1, 1) := by decide +kernel
theorem dX8_work_2 : decode cX8_work 2 = .ok (.invokevirtual 65, 3) := by decide +kernel
theorem dX8_work_5 : decode cX8_work 5 = .ok (.iconst 0, 1) := by decide +kernel
theorem dX8_work_6 : decode cX8_work 6 = .ok (.istore_n 2, 1) := by decide +kernel
theorem dX8_work_7 : decode cX8_work 7 = .ok (.iload_n 2, 1) := by decide +kernel
theorem dX8_work_8 : decode cX8_work 8 = .ok (.ldc 69, 2) := by decide +kernel
theorem dX8_work_10 : decode cX8_work 10 = .ok (.if_icmp .ge 44, 3) := by decide +kernel
theorem dX8_work_13 : decode cX8_work 13 = .ok (.aload_n 0, 1) := by decide +kernel
theorem dX8_work_14 : decode cX8_work 14 = .ok (.invokevirtual 70, 3) := by decide +kernel
theorem dX8_work_17 : decode cX8_work 17 = .ok (.istore_n 3, 1) := by decide +kernel
theorem dX8_work_18 : decode cX8_work 18 = .ok (.iload_n 3, 1) := by decide +kernel
theorem dX8_work_19 : decode cX8_work 19 = .ok (.iconst (-1), 1) := by decide +kernel
theorem dX8_work_20 : decode cX8_work 20 = .ok (.if_icmp .ne 7, 3) := by decide +kernel
theorem dX8_work_23 : decode cX8_work 23 = .ok (.iconst (-1), 1) := by decide +kernel
theorem dX8_work_24 : decode cX8_work 24 = .ok (.goto 8, 3) := by decide +kernel
theorem dX8_work_27 : decode cX8_work 27 = .ok (.aload_n 0, 1) := by decide +kernel
theorem dX8_work_28 : decode cX8_work 28 = .ok (.iload_n 3, 1) := by decide +kernel
theorem dX8_work_29 : decode cX8_work 29 = .ok (.invokevirtual 74, 3) := by decide +kernel
theorem dX8_work_32 : decode cX8_work 32 = .ok (.istore 4, 2) := by decide +kernel
theorem dX8_work_34 : decode cX8_work 34 = .ok (.iload 4, 2) := by decide +kernel
theorem dX8_work_36 : decode cX8_work 36 = .ok (.iconst (-1), 1) := by decide +kernel
theorem dX8_work_37 : decode cX8_work 37 = .ok (.if_icmp .ne 4, 3) := by decide +kernel
theorem dX8_work_40 : decode cX8_work 40 = .ok (.return_, 1) := by decide +kernel
theorem dX8_work_41 : decode cX8_work 41 = .ok (.aload_n 0, 1) := by decide +kernel
theorem dX8_work_42 : decode cX8_work 42 = .ok (.iload 4, 2) := by decide +kernel
theorem dX8_work_44 : decode cX8_work 44 = .ok (.iload_n 3, 1) := by decide +kernel
theorem dX8_work_45 : decode cX8_work 45 = .ok (.invokevirtual 78, 3) := by decide +kernel
theorem dX8_work_48 : decode cX8_work 48 = .ok (.iinc 2 1, 3) := by decide +kernel
theorem dX8_work_51 : decode cX8_work 51 = .ok (.goto (-44), 3) := by decide +kernel
theorem dX8_work_54 : decode cX8_work 54 = .ok (.return_, 1) := by decide +kernel
set_option maxRecDepth 20000 in
theorem ggX8_top_X0_put : GoodIn wsX8_top wsX0_put := goodIn_s _ [(11, 4), (79, 3)] rfl (by decide +kernel)
set_option maxRecDepth 20000 in
theorem gX8_top_X0_put : GoodIn wsX8_top (wsV RX8 82 RX0 yX0_put wsX0_put) := goodIn_app (goodIn_r _ [7, 8, 9, 10] rfl (by decide +kernel)) ggX8_top_X0_put
set_option maxRecDepth 20000 in
theorem ggX8_top_X0_putProduct : GoodIn wsX8_top wsX0_putProduct := goodIn_s _ [(18, 1), (13, 2), (19, 4), (12, 1), (23, 3), (10, 1), (26, 10), (79, 3)] rfl (by decide +kernel)
set_option maxRecDepth 20000 in
theorem gX8_top_X0_putProduct : GoodIn wsX8_top (wsV RX8 86 RX0 yX0_putProduct wsX0_putProduct) := goodIn_app (goodIn_r _ [15, 16, 17, 10] rfl (by decide +kernel)) ggX8_top_X0_putProduct
set_option maxRecDepth 20000 in
theorem ggX8_top_X8_cell : GoodIn wsX8_top wsX8_cell := goodIn_s _ [(40, 2), (66, 13)] rfl (by decide +kernel)
set_option maxRecDepth 20000 in
theorem gX8_top_X8_cell : GoodIn wsX8_top (wsV RX8 90 RX8 yX8_cell wsX8_cell) := goodIn_app (goodIn_r _ [36, 37, 38, 39] rfl (by decide +kernel)) ggX8_top_X8_cell
set_option maxRecDepth 20000 in
theorem ggX8_top_X0_plus : GoodIn wsX8_top wsX0_plus := goodIn_s _ [(45, 1), (13, 1), (12, 1), (46, 3), (10, 1), (49, 1), (14, 1), (19, 4), (50, 8), (27, 1), (58, 4), (23, 4), (62, 4), (32, 4), (79, 3)] rfl (by decide +kernel)
set_option maxRecDepth 20000 in
theorem gX8_top_X0_plus : GoodIn wsX8_top (wsV RX8 94 RX0 yX0_plus wsX0_plus) := goodIn_app (goodIn_r _ [42, 43, 44, 10] rfl (by decide +kernel)) ggX8_top_X0_plus
theorem dX8_top_0 : decode cX8_top 0 = .ok (.aload_n 0, 1) := by decide +kernel
theorem dX8_top_1 : decode cX8_top 1 = .ok (.getfield 55, 3) := by decide +kernel
theorem dX8_top_4 : decode cX8_top 4 = .ok (.aload_n 0, 1) := by decide +kernel
theorem dX8_top_5 : decode cX8_top 5 = .ok (.getfield 41, 3) := by decide +kernel
theorem dX8_top_8 : decode cX8_top 8 = .ok (.invokevirtual 82, 3) := by decide +kernel
theorem dX8_top_11 : decode cX8_top 11 = .ok (.aload_n 0, 1) := by decide +kernel
theorem dX8_top_12 : decode cX8_top 12 = .ok (.getfield 52, 3) := by decide +kernel
theorem dX8_top_15 : decode cX8_top 15 = .ok (.aload_n 0, 1) := by decide +kernel
theorem dX8_top_16 : decode cX8_top 16 = .ok (.getfield 48, 3) := by decide +kernel
theorem dX8_top_19 : decode cX8_top 19 = .ok (.aload_n 0, 1) := by decide +kernel
theorem dX8_top_20 : decode cX8_top 20 = .ok (.getfield 55, 3) := by decide +kernel
theorem dX8_top_23 : decode cX8_top 23 = .ok (.invokevirtual 86, 3) := by decide +kernel
theorem dX8_top_26 : decode cX8_top 26 = .ok (.aload_n 0, 1) := by decide +kernel
theorem dX8_top_27 : decode cX8_top 27 = .ok (.getfield 52, 3) := by decide +kernel
theorem dX8_top_30 : decode cX8_top 30 = .ok (.aload_n 0, 1) := by decide +kernel
theorem dX8_top_31 : decode cX8_top 31 = .ok (.aload_n 0, 1) := by decide +kernel
theorem dX8_top_32 : decode cX8_top 32 = .ok (.getfield 28, 3) := by decide +kernel
theorem dX8_top_35 : decode cX8_top 35 = .ok (.aload_n 0, 1) := by decide +kernel
theorem dX8_top_36 : decode cX8_top 36 = .ok (.getfield 32, 3) := by decide +kernel
theorem dX8_top_39 : decode cX8_top 39 = .ok (.invokevirtual 90, 3) := by decide +kernel
theorem dX8_top_42 : decode cX8_top 42 = .ok (.invokevirtual 94, 3) := by decide +kernel
theorem dX8_top_45 : decode cX8_top 45 = .ok (.aload_n 0, 1) := by decide +kernel
theorem dX8_top_46 : decode cX8_top 46 = .ok (.getfield 52, 3) := by decide +kernel
theorem dX8_top_49 : decode cX8_top 49 = .ok (.areturn, 1) := by decide +kernel
set_option maxRecDepth 20000 in
theorem ggX8_handOver_X0_put : GoodIn wsX8_handOver wsX0_put := goodIn_s _ [(13, 4), (50, 3)] rfl (by decide +kernel)
set_option maxRecDepth 20000 in
theorem gX8_handOver_X0_put : GoodIn wsX8_handOver (wsV RX8 82 RX0 yX0_put wsX0_put) := goodIn_app (goodIn_r _ [9, 10, 11, 12] rfl (by decide +kernel)) ggX8_handOver_X0_put
set_option maxRecDepth 20000 in
theorem ggX8_handOver_X0_copy : GoodIn wsX8_handOver wsX0_copy := goodIn_s _ [(20, 1), (15, 2), (21, 8), (14, 1), (50, 3)] rfl (by decide +kernel)
set_option maxRecDepth 20000 in
theorem gX8_handOver_X0_copy : GoodIn wsX8_handOver (wsV RX8 103 RX0 yX0_copy wsX0_copy) := goodIn_app (goodIn_r _ [17, 18, 19, 12] rfl (by decide +kernel)) ggX8_handOver_X0_copy
set_option maxRecDepth 20000 in
theorem ggX8_handOver_X8_cell : GoodIn wsX8_handOver wsX8_cell := goodIn_s _ [(33, 2), (37, 13)] rfl (by decide +kernel)
set_option maxRecDepth 20000 in
theorem gX8_handOver_X8_cell : GoodIn wsX8_handOver (wsV RX8 90 RX8 yX8_cell wsX8_cell) := goodIn_app (goodIn_r _ [29, 30, 31, 32] rfl (by decide +kernel)) ggX8_handOver_X8_cell
theorem dX8_handOver_0 : decode cX8_handOver 0 = .ok (.iconst 0, 1) := by decide +kernel
theorem dX8_handOver_1 : decode cX8_handOver 1 = .ok (.istore_n 3, 1) := by decide +kernel
theorem dX8_handOver_2 : decode cX8_handOver 2 = .ok (.iload_n 3, 1) := by decide +kernel
theorem dX8_handOver_3 : decode cX8_handOver 3 = .ok (.bipush 20, 2) := by decide +kernel
theorem dX8_handOver_5 : decode cX8_handOver 5 = .ok (.if_icmp .ge 29, 3) := by decide +kernel
theorem dX8_handOver_8 : decode cX8_handOver 8 = .ok (.aload_n 1, 1) := by decide +kernel
theorem dX8_handOver_9 : decode cX8_handOver 9 = .ok (.getfield 98, 3) := by decide +kernel
theorem dX8_handOver_12 : decode cX8_handOver 12 = .ok (.iload_n 3, 1) := by decide +kernel
theorem dX8_handOver_13 : decode cX8_handOver 13 = .ok (.aaload, 1) := by decide +kernel
theorem dX8_handOver_14 : decode cX8_handOver 14 = .ok (.lconst 0, 1) := by decide +kernel
theorem dX8_handOver_15 : decode cX8_handOver 15 = .ok (.invokevirtual 82, 3) := by decide +kernel
theorem dX8_handOver_18 : decode cX8_handOver 18 = .ok (.aload_n 2, 1) := by decide +kernel
theorem dX8_handOver_19 : decode cX8_handOver 19 = .ok (.getfield 98, 3) := by decide +kernel
theorem dX8_handOver_22 : decode cX8_handOver 22 = .ok (.iload_n 3, 1) := by decide +kernel
theorem dX8_handOver_23 : decode cX8_handOver 23 = .ok (.aaload, 1) := by decide +kernel
theorem dX8_handOver_24 : decode cX8_handOver 24 = .ok (.lconst 0, 1) := by decide +kernel
theorem dX8_handOver_25 : decode cX8_handOver 25 = .ok (.invokevirtual 82, 3) := by decide +kernel
theorem dX8_handOver_28 : decode cX8_handOver 28 = .ok (.iinc 3 1, 3) := by decide +kernel
theorem dX8_handOver_31 : decode cX8_handOver 31 = .ok (.goto (-29), 3) := by decide +kernel
theorem dX8_handOver_34 : decode cX8_handOver 34 = .ok (.aload_n 1, 1) := by decide +kernel
theorem dX8_handOver_35 : decode cX8_handOver 35 = .ok (.getfield 98, 3) := by decide +kernel
theorem dX8_handOver_38 : decode cX8_handOver 38 = .ok (.iconst 0, 1) := by decide +kernel
theorem dX8_handOver_39 : decode cX8_handOver 39 = .ok (.aaload, 1) := by decide +kernel
theorem dX8_handOver_40 : decode cX8_handOver 40 = .ok (.aload_n 0, 1) := by decide +kernel
theorem dX8_handOver_41 : decode cX8_handOver 41 = .ok (.getfield 48, 3) := by decide +kernel
theorem dX8_handOver_44 : decode cX8_handOver 44 = .ok (.invokevirtual 103, 3) := by decide +kernel
theorem dX8_handOver_47 : decode cX8_handOver 47 = .ok (.aload_n 2, 1) := by decide +kernel
theorem dX8_handOver_48 : decode cX8_handOver 48 = .ok (.getfield 98, 3) := by decide +kernel
theorem dX8_handOver_51 : decode cX8_handOver 51 = .ok (.iconst 0, 1) := by decide +kernel
theorem dX8_handOver_52 : decode cX8_handOver 52 = .ok (.aaload, 1) := by decide +kernel
theorem dX8_handOver_53 : decode cX8_handOver 53 = .ok (.aload_n 0, 1) := by decide +kernel
theorem dX8_handOver_54 : decode cX8_handOver 54 = .ok (.getfield 48, 3) := by decide +kernel
theorem dX8_handOver_57 : decode cX8_handOver 57 = .ok (.invokevirtual 103, 3) := by decide +kernel
theorem dX8_handOver_60 : decode cX8_handOver 60 = .ok (.iconst 0, 1) := by decide +kernel
theorem dX8_handOver_61 : decode cX8_handOver 61 = .ok (.istore_n 3, 1) := by decide +kernel
theorem dX8_handOver_62 : decode cX8_handOver 62 = .ok (.iload_n 3, 1) := by decide +kernel
theorem dX8_handOver_63 : decode cX8_handOver 63 = .ok (.aload_n 0, 1) := by decide +kernel
theorem dX8_handOver_64 : decode cX8_handOver 64 = .ok (.getfield 28, 3) := by decide +kernel
theorem dX8_handOver_67 : decode cX8_handOver 67 = .ok (.if_icmp .ge 49, 3) := by decide +kernel
theorem dX8_handOver_70 : decode cX8_handOver 70 = .ok (.aload_n 0, 1) := by decide +kernel
theorem dX8_handOver_71 : decode cX8_handOver 71 = .ok (.getfield 17, 3) := by decide +kernel
theorem dX8_handOver_74 : decode cX8_handOver 74 = .ok (.iload_n 3, 1) := by decide +kernel
theorem dX8_handOver_75 : decode cX8_handOver 75 = .ok (.iaload, 1) := by decide +kernel
theorem dX8_handOver_76 : decode cX8_handOver 76 = .ok (.aload_n 0, 1) := by decide +kernel
theorem dX8_handOver_77 : decode cX8_handOver 77 = .ok (.getfield 35, 3) := by decide +kernel
theorem dX8_handOver_80 : decode cX8_handOver 80 = .ok (.iconst 1, 1) := by decide +kernel
theorem dX8_handOver_81 : decode cX8_handOver 81 = .ok (.isub, 1) := by decide +kernel
theorem dX8_handOver_82 : decode cX8_handOver 82 = .ok (.if_icmp .ge 28, 3) := by decide +kernel
theorem dX8_handOver_85 : decode cX8_handOver 85 = .ok (.aload_n 1, 1) := by decide +kernel
theorem dX8_handOver_86 : decode cX8_handOver 86 = .ok (.getfield 98, 3) := by decide +kernel
theorem dX8_handOver_89 : decode cX8_handOver 89 = .ok (.aload_n 0, 1) := by decide +kernel
theorem dX8_handOver_90 : decode cX8_handOver 90 = .ok (.getfield 17, 3) := by decide +kernel
theorem dX8_handOver_93 : decode cX8_handOver 93 = .ok (.iload_n 3, 1) := by decide +kernel
theorem dX8_handOver_94 : decode cX8_handOver 94 = .ok (.iaload, 1) := by decide +kernel
theorem dX8_handOver_95 : decode cX8_handOver 95 = .ok (.iconst 1, 1) := by decide +kernel
theorem dX8_handOver_96 : decode cX8_handOver 96 = .ok (.iadd, 1) := by decide +kernel
theorem dX8_handOver_97 : decode cX8_handOver 97 = .ok (.aaload, 1) := by decide +kernel
theorem dX8_handOver_98 : decode cX8_handOver 98 = .ok (.aload_n 0, 1) := by decide +kernel
theorem dX8_handOver_99 : decode cX8_handOver 99 = .ok (.iload_n 3, 1) := by decide +kernel
theorem dX8_handOver_100 : decode cX8_handOver 100 = .ok (.aload_n 0, 1) := by decide +kernel
theorem dX8_handOver_101 : decode cX8_handOver 101 = .ok (.getfield 32, 3) := by decide +kernel
theorem dX8_handOver_104 : decode cX8_handOver 104 = .ok (.invokevirtual 90, 3) := by decide +kernel
theorem dX8_handOver_107 : decode cX8_handOver 107 = .ok (.invokevirtual 103, 3) := by decide +kernel
theorem dX8_handOver_110 : decode cX8_handOver 110 = .ok (.iinc 3 1, 3) := by decide +kernel
theorem dX8_handOver_113 : decode cX8_handOver 113 = .ok (.goto (-51), 3) := by decide +kernel
theorem dX8_handOver_116 : decode cX8_handOver 116 = .ok (.iconst 0, 1) := by decide +kernel
theorem dX8_handOver_117 : decode cX8_handOver 117 = .ok (.istore_n 3, 1) := by decide +kernel
theorem dX8_handOver_118 : decode cX8_handOver 118 = .ok (.iload_n 3, 1) := by decide +kernel
theorem dX8_handOver_119 : decode cX8_handOver 119 = .ok (.aload_n 0, 1) := by decide +kernel
theorem dX8_handOver_120 : decode cX8_handOver 120 = .ok (.getfield 32, 3) := by decide +kernel
theorem dX8_handOver_123 : decode cX8_handOver 123 = .ok (.if_icmp .ge 59, 3) := by decide +kernel
theorem dX8_handOver_126 : decode cX8_handOver 126 = .ok (.aload_n 0, 1) := by decide +kernel
theorem dX8_handOver_127 : decode cX8_handOver 127 = .ok (.getfield 21, 3) := by decide +kernel
theorem dX8_handOver_130 : decode cX8_handOver 130 = .ok (.iload_n 3, 1) := by decide +kernel
theorem dX8_handOver_131 : decode cX8_handOver 131 = .ok (.iaload, 1) := by decide +kernel
theorem dX8_handOver_132 : decode cX8_handOver 132 = .ok (.aload_n 0, 1) := by decide +kernel
theorem dX8_handOver_133 : decode cX8_handOver 133 = .ok (.getfield 32, 3) := by decide +kernel
theorem dX8_handOver_136 : decode cX8_handOver 136 = .ok (.isub, 1) := by decide +kernel
theorem dX8_handOver_137 : decode cX8_handOver 137 = .ok (.istore 4, 2) := by decide +kernel
theorem dX8_handOver_139 : decode cX8_handOver 139 = .ok (.iload 4, 2) := by decide +kernel
theorem dX8_handOver_141 : decode cX8_handOver 141 = .ok (.ifCond .lt 35, 3) := by decide +kernel
theorem dX8_handOver_144 : decode cX8_handOver 144 = .ok (.iload 4, 2) := by decide +kernel
theorem dX8_handOver_146 : decode cX8_handOver 146 = .ok (.aload_n 0, 1) := by decide +kernel
theorem dX8_handOver_147 : decode cX8_handOver 147 = .ok (.getfield 38, 3) := by decide +kernel
theorem dX8_handOver_150 : decode cX8_handOver 150 = .ok (.iconst 1, 1) := by decide +kernel
theorem dX8_handOver_151 : decode cX8_handOver 151 = .ok (.isub, 1) := by decide +kernel
theorem dX8_handOver_152 : decode cX8_handOver 152 = .ok (.if_icmp .ge 24, 3) := by decide +kernel
theorem dX8_handOver_155 : decode cX8_handOver 155 = .ok (.aload_n 2, 1) := by decide +kernel
theorem dX8_handOver_156 : decode cX8_handOver 156 = .ok (.getfield 98, 3) := by decide +kernel
theorem dX8_handOver_159 : decode cX8_handOver 159 = .ok (.iload 4, 2) := by decide +kernel
theorem dX8_handOver_161 : decode cX8_handOver 161 = .ok (.iconst 1, 1) := by decide +kernel
theorem dX8_handOver_162 : decode cX8_handOver 162 = .ok (.iadd, 1) := by decide +kernel
theorem dX8_handOver_163 : decode cX8_handOver 163 = .ok (.aaload, 1) := by decide +kernel
theorem dX8_handOver_164 : decode cX8_handOver 164 = .ok (.aload_n 0, 1) := by decide +kernel
theorem dX8_handOver_165 : decode cX8_handOver 165 = .ok (.aload_n 0, 1) := by decide +kernel
theorem dX8_handOver_166 : decode cX8_handOver 166 = .ok (.getfield 28, 3) := by decide +kernel
theorem dX8_handOver_169 : decode cX8_handOver 169 = .ok (.iload_n 3, 1) := by decide +kernel
theorem dX8_handOver_170 : decode cX8_handOver 170 = .ok (.invokevirtual 90, 3) := by decide +kernel
theorem dX8_handOver_173 : decode cX8_handOver 173 = .ok (.invokevirtual 103, 3) := by decide +kernel
theorem dX8_handOver_176 : decode cX8_handOver 176 = .ok (.iinc 3 1, 3) := by decide +kernel
theorem dX8_handOver_179 : decode cX8_handOver 179 = .ok (.goto (-61), 3) := by decide +kernel
theorem dX8_handOver_182 : decode cX8_handOver 182 = .ok (.return_, 1) := by decide +kernel
set_option maxRecDepth 20000 in
theorem ggX8_setUp_X2_sumOfSizes : GoodIn wsX8_setUp wsX2_sumOfSizes := goodIn_s _ [(12, 8), (79, 12)] rfl (by decide +kernel)
set_option maxRecDepth 20000 in
theorem gX8_setUp_X2_sumOfSizes : GoodIn wsX8_setUp (wsV RX8 120 RX2 yX2_sumOfSizes wsX2_sumOfSizes) := goodIn_app (goodIn_r _ [8, 9, 10, 11] rfl (by decide +kernel)) ggX8_setUp_X2_sumOfSizes
set_option maxRecDepth 20000 in
theorem ggX8_setUp_X8_clear : GoodIn wsX8_setUp wsX8_clear := goodIn_s _ [(24, 1), (6, 2), (25, 6), (23, 1), (31, 10), (91, 16)] rfl (by decide +kernel)
set_option maxRecDepth 20000 in
theorem gX8_setUp_X8_clear : GoodIn wsX8_setUp (wsV RX8 124 RX8 yX8_clear wsX8_clear) := goodIn_app (goodIn_r _ [20, 21, 22, 23] rfl (by decide +kernel)) ggX8_setUp_X8_clear
set_option maxRecDepth 20000 in
theorem ggX8_setUp_X8_setFloors : GoodIn wsX8_setUp wsX8_setFloors := goodIn_s _ [(44, 1), (5, 1), (45, 6), (83, 21)] rfl (by decide +kernel)
set_option maxRecDepth 20000 in
theorem gX8_setUp_X8_setFloors : GoodIn wsX8_setUp (wsV RX8 127 RX8 yX8_setFloors wsX8_setFloors) := goodIn_app (goodIn_r _ [41, 42, 43, 23] rfl (by decide +kernel)) ggX8_setUp_X8_setFloors
set_option maxRecDepth 20000 in
theorem ggX8_setUp_X8_setUpLinesOfB : GoodIn wsX8_setUp wsX8_setUpLinesOfB := goodIn_s _ [(54, 1), (1, 1), (5, 1), (55, 5), (23, 1), (60, 2), (45, 1), (3, 1), (62, 2), (7, 1), (28, 13), (79, 28)] rfl (by decide +kernel)
set_option maxRecDepth 20000 in
theorem gX8_setUp_X8_setUpLinesOfB : GoodIn wsX8_setUp (wsV RX8 131 RX8 yX8_setUpLinesOfB wsX8_setUpLinesOfB) := goodIn_app (goodIn_r _ [51, 52, 53, 23] rfl (by decide +kernel)) ggX8_setUp_X8_setUpLinesOfB
