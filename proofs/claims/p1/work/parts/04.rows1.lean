theorem dX5_isOne_37 : decode cX5_isOne 37 = .ok (.iload_n 1, 1) := by decide +kernel
theorem dX5_isOne_38 : decode cX5_isOne 38 = .ok (.ifCond .ne 5, 3) := by decide +kernel
theorem dX5_isOne_41 : decode cX5_isOne 41 = .ok (.iconst 0, 1) := by decide +kernel
theorem dX5_isOne_42 : decode cX5_isOne 42 = .ok (.ireturn, 1) := by decide +kernel
theorem dX5_isOne_43 : decode cX5_isOne 43 = .ok (.aload_n 0, 1) := by decide +kernel
theorem dX5_isOne_44 : decode cX5_isOne 44 = .ok (.getfield 21, 3) := by decide +kernel
theorem dX5_isOne_47 : decode cX5_isOne 47 = .ok (.invokevirtual 95, 3) := by decide +kernel
theorem dX5_isOne_50 : decode cX5_isOne 50 = .ok (.iinc 2 1, 3) := by decide +kernel
theorem dX5_isOne_53 : decode cX5_isOne 53 = .ok (.goto (-39), 3) := by decide +kernel
theorem dX5_isOne_56 : decode cX5_isOne 56 = .ok (.iload_n 1, 1) := by decide +kernel
theorem dX5_isOne_57 : decode cX5_isOne 57 = .ok (.bipush 10, 2) := by decide +kernel
theorem dX5_isOne_59 : decode cX5_isOne 59 = .ok (.if_icmp .ne 14, 3) := by decide +kernel
theorem dX5_isOne_62 : decode cX5_isOne 62 = .ok (.aload_n 0, 1) := by decide +kernel
theorem dX5_isOne_63 : decode cX5_isOne 63 = .ok (.getfield 36, 3) := by decide +kernel
theorem dX5_isOne_66 : decode cX5_isOne 66 = .ok (.ifCond .ne 7, 3) := by decide +kernel
theorem dX5_isOne_69 : decode cX5_isOne 69 = .ok (.iconst 1, 1) := by decide +kernel
theorem dX5_isOne_70 : decode cX5_isOne 70 = .ok (.goto 4, 3) := by decide +kernel
theorem dX5_isOne_73 : decode cX5_isOne 73 = .ok (.iconst 0, 1) := by decide +kernel
theorem dX5_isOne_74 : decode cX5_isOne 74 = .ok (.ireturn, 1) := by decide +kernel
set_option maxRecDepth 20000 in
theorem ggX6_init_X0_init : GoodIn wsX6_init wsX0_init := goodIn_r _ [16, 17, 2, 3, 18, 19, 4, 20, 26, 27, 28] (by decide +kernel) (by decide +kernel)
set_option maxRecDepth 20000 in
theorem gX6_init_X0_init : GoodIn wsX6_init (wsX0_init) := ggX6_init_X0_init
theorem dX6_init_0 : decode cX6_init 0 = .ok (.aload_n 0, 1) := by decide +kernel
theorem dX6_init_1 : decode cX6_init 1 = .ok (.invokespecial 3, 3) := by decide +kernel
theorem dX6_init_4 : decode cX6_init 4 = .ok (.aload_n 0, 1) := by decide +kernel
theorem dX6_init_5 : decode cX6_init 5 = .ok (.bipush 10, 2) := by decide +kernel
theorem dX6_init_7 : decode cX6_init 7 = .ok (.newarray .int, 2) := by decide +kernel
theorem dX6_init_9 : decode cX6_init 9 = .ok (.putfield 9, 3) := by decide +kernel
theorem dX6_init_12 : decode cX6_init 12 = .ok (.aload_n 0, 1) := by decide +kernel
theorem dX6_init_13 : decode cX6_init 13 = .ok (.bipush 10, 2) := by decide +kernel
theorem dX6_init_15 : decode cX6_init 15 = .ok (.newarray .boolean, 2) := by decide +kernel
theorem dX6_init_17 : decode cX6_init 17 = .ok (.putfield 15, 3) := by decide +kernel
theorem dX6_init_20 : decode cX6_init 20 = .ok (.aload_n 0, 1) := by decide +kernel
theorem dX6_init_21 : decode cX6_init 21 = .ok (.bipush 20, 2) := by decide +kernel
theorem dX6_init_23 : decode cX6_init 23 = .ok (.anewarray 19, 3) := by decide +kernel
theorem dX6_init_26 : decode cX6_init 26 = .ok (.putfield 21, 3) := by decide +kernel
theorem dX6_init_29 : decode cX6_init 29 = .ok (.aload_n 0, 1) := by decide +kernel
theorem dX6_init_30 : decode cX6_init 30 = .ok (.new 19, 3) := by decide +kernel
theorem dX6_init_33 : decode cX6_init 33 = .ok (.dup, 1) := by decide +kernel
theorem dX6_init_34 : decode cX6_init 34 = .ok (.iconst 2, 1) := by decide +kernel
theorem dX6_init_35 : decode cX6_init 35 = .ok (.invokespecial 25, 3) := by decide +kernel
theorem dX6_init_38 : decode cX6_init 38 = .ok (.putfield 28, 3) := by decide +kernel
theorem dX6_init_41 : decode cX6_init 41 = .ok (.aload_n 0, 1) := by decide +kernel
theorem dX6_init_42 : decode cX6_init 42 = .ok (.new 19, 3) := by decide +kernel
theorem dX6_init_45 : decode cX6_init 45 = .ok (.dup, 1) := by decide +kernel
theorem dX6_init_46 : decode cX6_init 46 = .ok (.bipush 64, 2) := by decide +kernel
theorem dX6_init_48 : decode cX6_init 48 = .ok (.invokespecial 25, 3) := by decide +kernel
theorem dX6_init_51 : decode cX6_init 51 = .ok (.putfield 32, 3) := by decide +kernel
theorem dX6_init_54 : decode cX6_init 54 = .ok (.iconst 0, 1) := by decide +kernel
theorem dX6_init_55 : decode cX6_init 55 = .ok (.istore_n 1, 1) := by decide +kernel
theorem dX6_init_56 : decode cX6_init 56 = .ok (.iload_n 1, 1) := by decide +kernel
theorem dX6_init_57 : decode cX6_init 57 = .ok (.bipush 20, 2) := by decide +kernel
theorem dX6_init_59 : decode cX6_init 59 = .ok (.if_icmp .ge 24, 3) := by decide +kernel
theorem dX6_init_62 : decode cX6_init 62 = .ok (.aload_n 0, 1) := by decide +kernel
theorem dX6_init_63 : decode cX6_init 63 = .ok (.getfield 21, 3) := by decide +kernel
theorem dX6_init_66 : decode cX6_init 66 = .ok (.iload_n 1, 1) := by decide +kernel
theorem dX6_init_67 : decode cX6_init 67 = .ok (.new 19, 3) := by decide +kernel
theorem dX6_init_70 : decode cX6_init 70 = .ok (.dup, 1) := by decide +kernel
theorem dX6_init_71 : decode cX6_init 71 = .ok (.bipush 32, 2) := by decide +kernel
theorem dX6_init_73 : decode cX6_init 73 = .ok (.invokespecial 25, 3) := by decide +kernel
theorem dX6_init_76 : decode cX6_init 76 = .ok (.aastore, 1) := by decide +kernel
theorem dX6_init_77 : decode cX6_init 77 = .ok (.iinc 1 1, 3) := by decide +kernel
theorem dX6_init_80 : decode cX6_init 80 = .ok (.goto (-24), 3) := by decide +kernel
theorem dX6_init_83 : decode cX6_init 83 = .ok (.return_, 1) := by decide +kernel
theorem dX7_init_0 : decode cX7_init 0 = .ok (.aload_n 0, 1) := by decide +kernel
theorem dX7_init_1 : decode cX7_init 1 = .ok (.invokespecial 3, 3) := by decide +kernel
theorem dX7_init_4 : decode cX7_init 4 = .ok (.aload_n 0, 1) := by decide +kernel
theorem dX7_init_5 : decode cX7_init 5 = .ok (.iconst 0, 1) := by decide +kernel
theorem dX7_init_6 : decode cX7_init 6 = .ok (.putfield 9, 3) := by decide +kernel
theorem dX7_init_9 : decode cX7_init 9 = .ok (.aload_n 0, 1) := by decide +kernel
theorem dX7_init_10 : decode cX7_init 10 = .ok (.bipush 10, 2) := by decide +kernel
theorem dX7_init_12 : decode cX7_init 12 = .ok (.newarray .int, 2) := by decide +kernel
theorem dX7_init_14 : decode cX7_init 14 = .ok (.putfield 15, 3) := by decide +kernel
theorem dX7_init_17 : decode cX7_init 17 = .ok (.aload_n 0, 1) := by decide +kernel
theorem dX7_init_18 : decode cX7_init 18 = .ok (.bipush 10, 2) := by decide +kernel
theorem dX7_init_20 : decode cX7_init 20 = .ok (.newarray .int, 2) := by decide +kernel
theorem dX7_init_22 : decode cX7_init 22 = .ok (.putfield 19, 3) := by decide +kernel
theorem dX7_init_25 : decode cX7_init 25 = .ok (.aload_n 0, 1) := by decide +kernel
theorem dX7_init_26 : decode cX7_init 26 = .ok (.bipush 10, 2) := by decide +kernel
theorem dX7_init_28 : decode cX7_init 28 = .ok (.newarray .int, 2) := by decide +kernel
theorem dX7_init_30 : decode cX7_init 30 = .ok (.putfield 22, 3) := by decide +kernel
theorem dX7_init_33 : decode cX7_init 33 = .ok (.aload_n 0, 1) := by decide +kernel
theorem dX7_init_34 : decode cX7_init 34 = .ok (.bipush 10, 2) := by decide +kernel
theorem dX7_init_36 : decode cX7_init 36 = .ok (.newarray .int, 2) := by decide +kernel
theorem dX7_init_38 : decode cX7_init 38 = .ok (.putfield 25, 3) := by decide +kernel
theorem dX7_init_41 : decode cX7_init 41 = .ok (.aload_n 0, 1) := by decide +kernel
theorem dX7_init_42 : decode cX7_init 42 = .ok (.iconst 1, 1) := by decide +kernel
theorem dX7_init_43 : decode cX7_init 43 = .ok (.putfield 28, 3) := by decide +kernel
theorem dX7_init_46 : decode cX7_init 46 = .ok (.aload_n 0, 1) := by decide +kernel
theorem dX7_init_47 : decode cX7_init 47 = .ok (.bipush 10, 2) := by decide +kernel
theorem dX7_init_49 : decode cX7_init 49 = .ok (.newarray .int, 2) := by decide +kernel
theorem dX7_init_51 : decode cX7_init 51 = .ok (.putfield 31, 3) := by decide +kernel
theorem dX7_init_54 : decode cX7_init 54 = .ok (.aload_n 0, 1) := by decide +kernel
theorem dX7_init_55 : decode cX7_init 55 = .ok (.bipush 10, 2) := by decide +kernel
theorem dX7_init_57 : decode cX7_init 57 = .ok (.newarray .int, 2) := by decide +kernel
theorem dX7_init_59 : decode cX7_init 59 = .ok (.putfield 34, 3) := by decide +kernel
theorem dX7_init_62 : decode cX7_init 62 = .ok (.return_, 1) := by decide +kernel
set_option maxRecDepth 20000 in
theorem ggX8_init_X0_init : GoodIn wsX8_init wsX0_init := goodIn_r _ [27, 28, 2, 3, 29, 30, 6, 31, 53, 54, 55] (by decide +kernel) (by decide +kernel)
set_option maxRecDepth 20000 in
theorem gX8_init_X0_init : GoodIn wsX8_init (wsX0_init) := ggX8_init_X0_init
set_option maxRecDepth 20000 in
theorem ggX8_init_X1_init : GoodIn wsX8_init wsX1_init := goodIn_r _ [33, 34, 2, 3, 35, 16, 17, 36, 37, 38, 39, 26, 27, 28, 29, 30, 6, 31, 53, 54, 55, 56, 57, 58] (by decide +kernel) (by decide +kernel)
set_option maxRecDepth 20000 in
theorem gX8_init_X1_init_n60 : GoodIn wsX8_init (wsX1_init) := ggX8_init_X1_init
theorem dX8_init_0 : decode cX8_init 0 = .ok (.aload_n 0, 1) := by decide +kernel
theorem dX8_init_1 : decode cX8_init 1 = .ok (.invokespecial 3, 3) := by decide +kernel
theorem dX8_init_4 : decode cX8_init 4 = .ok (.aload_n 0, 1) := by decide +kernel
theorem dX8_init_5 : decode cX8_init 5 = .ok (.sipush 900, 3) := by decide +kernel
theorem dX8_init_8 : decode cX8_init 8 = .ok (.anewarray 11, 3) := by decide +kernel
theorem dX8_init_11 : decode cX8_init 11 = .ok (.putfield 13, 3) := by decide +kernel
theorem dX8_init_14 : decode cX8_init 14 = .ok (.aload_n 0, 1) := by decide +kernel
theorem dX8_init_15 : decode cX8_init 15 = .ok (.bipush 30, 2) := by decide +kernel
theorem dX8_init_17 : decode cX8_init 17 = .ok (.newarray .int, 2) := by decide +kernel
theorem dX8_init_19 : decode cX8_init 19 = .ok (.putfield 17, 3) := by decide +kernel
theorem dX8_init_22 : decode cX8_init 22 = .ok (.aload_n 0, 1) := by decide +kernel
theorem dX8_init_23 : decode cX8_init 23 = .ok (.bipush 30, 2) := by decide +kernel
theorem dX8_init_25 : decode cX8_init 25 = .ok (.newarray .int, 2) := by decide +kernel
theorem dX8_init_27 : decode cX8_init 27 = .ok (.putfield 21, 3) := by decide +kernel
theorem dX8_init_30 : decode cX8_init 30 = .ok (.aload_n 0, 1) := by decide +kernel
theorem dX8_init_31 : decode cX8_init 31 = .ok (.bipush 10, 2) := by decide +kernel
theorem dX8_init_33 : decode cX8_init 33 = .ok (.newarray .long, 2) := by decide +kernel
theorem dX8_init_35 : decode cX8_init 35 = .ok (.putfield 24, 3) := by decide +kernel
theorem dX8_init_38 : decode cX8_init 38 = .ok (.aload_n 0, 1) := by decide +kernel
theorem dX8_init_39 : decode cX8_init 39 = .ok (.iconst 0, 1) := by decide +kernel
theorem dX8_init_40 : decode cX8_init 40 = .ok (.putfield 28, 3) := by decide +kernel
theorem dX8_init_43 : decode cX8_init 43 = .ok (.aload_n 0, 1) := by decide +kernel
theorem dX8_init_44 : decode cX8_init 44 = .ok (.iconst 0, 1) := by decide +kernel
theorem dX8_init_45 : decode cX8_init 45 = .ok (.putfield 32, 3) := by decide +kernel
theorem dX8_init_48 : decode cX8_init 48 = .ok (.aload_n 0, 1) := by decide +kernel
theorem dX8_init_49 : decode cX8_init 49 = .ok (.iconst 1, 1) := by decide +kernel
theorem dX8_init_50 : decode cX8_init 50 = .ok (.putfield 35, 3) := by decide +kernel
theorem dX8_init_53 : decode cX8_init 53 = .ok (.aload_n 0, 1) := by decide +kernel
theorem dX8_init_54 : decode cX8_init 54 = .ok (.iconst 1, 1) := by decide +kernel
theorem dX8_init_55 : decode cX8_init 55 = .ok (.putfield 38, 3) := by decide +kernel
theorem dX8_init_58 : decode cX8_init 58 = .ok (.aload_n 0, 1) := by decide +kernel
theorem dX8_init_59 : decode cX8_init 59 = .ok (.lconst 0, 1) := by decide +kernel
theorem dX8_init_60 : decode cX8_init 60 = .ok (.putfield 41, 3) := by decide +kernel
theorem dX8_init_63 : decode cX8_init 63 = .ok (.aload_n 0, 1) := by decide +kernel
theorem dX8_init_64 : decode cX8_init 64 = .ok (.new 11, 3) := by decide +kernel
theorem dX8_init_67 : decode cX8_init 67 = .ok (.dup, 1) := by decide +kernel
theorem dX8_init_68 : decode cX8_init 68 = .ok (.bipush 32, 2) := by decide +kernel
theorem dX8_init_70 : decode cX8_init 70 = .ok (.invokespecial 45, 3) := by decide +kernel
theorem dX8_init_73 : decode cX8_init 73 = .ok (.putfield 48, 3) := by decide +kernel
theorem dX8_init_76 : decode cX8_init 76 = .ok (.aload_n 0, 1) := by decide +kernel
theorem dX8_init_77 : decode cX8_init 77 = .ok (.new 11, 3) := by decide +kernel
theorem dX8_init_80 : decode cX8_init 80 = .ok (.dup, 1) := by decide +kernel
theorem dX8_init_81 : decode cX8_init 81 = .ok (.bipush 64, 2) := by decide +kernel
theorem dX8_init_83 : decode cX8_init 83 = .ok (.invokespecial 45, 3) := by decide +kernel
theorem dX8_init_86 : decode cX8_init 86 = .ok (.putfield 52, 3) := by decide +kernel
theorem dX8_init_89 : decode cX8_init 89 = .ok (.aload_n 0, 1) := by decide +kernel
theorem dX8_init_90 : decode cX8_init 90 = .ok (.new 11, 3) := by decide +kernel
theorem dX8_init_93 : decode cX8_init 93 = .ok (.dup, 1) := by decide +kernel
theorem dX8_init_94 : decode cX8_init 94 = .ok (.bipush 64, 2) := by decide +kernel
theorem dX8_init_96 : decode cX8_init 96 = .ok (.invokespecial 45, 3) := by decide +kernel
theorem dX8_init_99 : decode cX8_init 99 = .ok (.putfield 55, 3) := by decide +kernel
theorem dX8_init_102 : decode cX8_init 102 = .ok (.aload_n 0, 1) := by decide +kernel
theorem dX8_init_103 : decode cX8_init 103 = .ok (.new 58, 3) := by decide +kernel
theorem dX8_init_106 : decode cX8_init 106 = .ok (.dup, 1) := by decide +kernel
theorem dX8_init_107 : decode cX8_init 107 = .ok (.invokespecial 60, 3) := by decide +kernel
theorem dX8_init_110 : decode cX8_init 110 = .ok (.putfield 61, 3) := by decide +kernel
theorem dX8_init_113 : decode cX8_init 113 = .ok (.iconst 0, 1) := by decide +kernel
theorem dX8_init_114 : decode cX8_init 114 = .ok (.istore_n 1, 1) := by decide +kernel
theorem dX8_init_115 : decode cX8_init 115 = .ok (.iload_n 1, 1) := by decide +kernel
theorem dX8_init_116 : decode cX8_init 116 = .ok (.sipush 900, 3) := by decide +kernel
theorem dX8_init_119 : decode cX8_init 119 = .ok (.if_icmp .ge 24, 3) := by decide +kernel
theorem dX8_init_122 : decode cX8_init 122 = .ok (.aload_n 0, 1) := by decide +kernel
theorem dX8_init_123 : decode cX8_init 123 = .ok (.getfield 13, 3) := by decide +kernel
theorem dX8_init_126 : decode cX8_init 126 = .ok (.iload_n 1, 1) := by decide +kernel
theorem dX8_init_127 : decode cX8_init 127 = .ok (.new 11, 3) := by decide +kernel
theorem dX8_init_130 : decode cX8_init 130 = .ok (.dup, 1) := by decide +kernel
theorem dX8_init_131 : decode cX8_init 131 = .ok (.bipush 32, 2) := by decide +kernel
theorem dX8_init_133 : decode cX8_init 133 = .ok (.invokespecial 45, 3) := by decide +kernel
theorem dX8_init_136 : decode cX8_init 136 = .ok (.aastore, 1) := by decide +kernel
theorem dX8_init_137 : decode cX8_init 137 = .ok (.iinc 1 1, 3) := by decide +kernel
theorem dX8_init_140 : decode cX8_init 140 = .ok (.goto (-25), 3) := by decide +kernel
theorem dX8_init_143 : decode cX8_init 143 = .ok (.return_, 1) := by decide +kernel
theorem dX9_init_0 : decode cX9_init 0 = .ok (.aload_n 0, 1) := by decide +kernel
theorem dX9_init_1 : decode cX9_init 1 = .ok (.invokespecial 3, 3) := by decide +kernel
theorem dX9_init_4 : decode cX9_init 4 = .ok (.aload_n 0, 1) := by decide +kernel
theorem dX9_init_5 : decode cX9_init 5 = .ok (.bipush 40, 2) := by decide +kernel
theorem dX9_init_7 : decode cX9_init 7 = .ok (.newarray .int, 2) := by decide +kernel
theorem dX9_init_9 : decode cX9_init 9 = .ok (.putfield 9, 3) := by decide +kernel
theorem dX9_init_12 : decode cX9_init 12 = .ok (.aload_n 0, 1) := by decide +kernel
theorem dX9_init_13 : decode cX9_init 13 = .ok (.bipush 40, 2) := by decide +kernel
theorem dX9_init_15 : decode cX9_init 15 = .ok (.newarray .int, 2) := by decide +kernel
theorem dX9_init_17 : decode cX9_init 17 = .ok (.putfield 15, 3) := by decide +kernel
theorem dX9_init_20 : decode cX9_init 20 = .ok (.aload_n 0, 1) := by decide +kernel
theorem dX9_init_21 : decode cX9_init 21 = .ok (.bipush 10, 2) := by decide +kernel
theorem dX9_init_23 : decode cX9_init 23 = .ok (.newarray .int, 2) := by decide +kernel
theorem dX9_init_25 : decode cX9_init 25 = .ok (.putfield 18, 3) := by decide +kernel
theorem dX9_init_28 : decode cX9_init 28 = .ok (.iconst 0, 1) := by decide +kernel
theorem dX9_init_29 : decode cX9_init 29 = .ok (.istore_n 1, 1) := by decide +kernel
theorem dX9_init_30 : decode cX9_init 30 = .ok (.iload_n 1, 1) := by decide +kernel
theorem dX9_init_31 : decode cX9_init 31 = .ok (.bipush 40, 2) := by decide +kernel
theorem dX9_init_33 : decode cX9_init 33 = .ok (.if_icmp .ge 16, 3) := by decide +kernel
theorem dX9_init_36 : decode cX9_init 36 = .ok (.aload_n 0, 1) := by decide +kernel
theorem dX9_init_37 : decode cX9_init 37 = .ok (.getfield 15, 3) := by decide +kernel
theorem dX9_init_40 : decode cX9_init 40 = .ok (.iload_n 1, 1) := by decide +kernel
theorem dX9_init_41 : decode cX9_init 41 = .ok (.iconst 1, 1) := by decide +kernel
theorem dX9_init_42 : decode cX9_init 42 = .ok (.iastore, 1) := by decide +kernel
theorem dX9_init_43 : decode cX9_init 43 = .ok (.iinc 1 1, 3) := by decide +kernel
theorem dX9_init_46 : decode cX9_init 46 = .ok (.goto (-16), 3) := by decide +kernel
theorem dX9_init_49 : decode cX9_init 49 = .ok (.return_, 1) := by decide +kernel
theorem dX10_init_0 : decode cX10_init 0 = .ok (.aload_n 0, 1) := by decide +kernel
theorem dX10_init_1 : decode cX10_init 1 = .ok (.invokespecial 3, 3) := by decide +kernel
theorem dX10_init_4 : decode cX10_init 4 = .ok (.aload_n 0, 1) := by decide +kernel
theorem dX10_init_5 : decode cX10_init 5 = .ok (.sipush 4000, 3) := by decide +kernel
theorem dX10_init_8 : decode cX10_init 8 = .ok (.newarray .char, 2) := by decide +kernel
theorem dX10_init_10 : decode cX10_init 10 = .ok (.putfield 9, 3) := by decide +kernel
theorem dX10_init_13 : decode cX10_init 13 = .ok (.aload_n 0, 1) := by decide +kernel
theorem dX10_init_14 : decode cX10_init 14 = .ok (.iconst 0, 1) := by decide +kernel
theorem dX10_init_15 : decode cX10_init 15 = .ok (.putfield 15, 3) := by decide +kernel
theorem dX10_init_18 : decode cX10_init 18 = .ok (.aload_n 0, 1) := by decide +kernel
theorem dX10_init_19 : decode cX10_init 19 = .ok (.iconst 0, 1) := by decide +kernel
theorem dX10_init_20 : decode cX10_init 20 = .ok (.putfield 19, 3) := by decide +kernel
theorem dX10_init_23 : decode cX10_init 23 = .ok (.aload_n 0, 1) := by decide +kernel
theorem dX10_init_24 : decode cX10_init 24 = .ok (.iconst 0, 1) := by decide +kernel
theorem dX10_init_25 : decode cX10_init 25 = .ok (.putfield 22, 3) := by decide +kernel
theorem dX10_init_28 : decode cX10_init 28 = .ok (.aload_n 0, 1) := by decide +kernel
theorem dX10_init_29 : decode cX10_init 29 = .ok (.iconst 0, 1) := by decide +kernel
theorem dX10_init_30 : decode cX10_init 30 = .ok (.putfield 25, 3) := by decide +kernel
theorem dX10_init_33 : decode cX10_init 33 = .ok (.aload_n 0, 1) := by decide +kernel
theorem dX10_init_34 : decode cX10_init 34 = .ok (.iconst 0, 1) := by decide +kernel
theorem dX10_init_35 : decode cX10_init 35 = .ok (.putfield 28, 3) := by decide +kernel
theorem dX10_init_38 : decode cX10_init 38 = .ok (.return_, 1) := by decide +kernel
set_option maxRecDepth 20000 in
theorem ggX10_append_X10_typedCharacter : GoodIn wsX10_append wsX10_typedCharacter := goodIn_r _ [6] (by decide +kernel) (by decide +kernel)
set_option maxRecDepth 20000 in
theorem gX10_append_X10_typedCharacter : GoodIn wsX10_append (va_wsS RX10 31 yX10_typedCharacter wsX10_typedCharacter) := goodIn_app (goodIn_of _ (by decide +kernel)) ggX10_append_X10_typedCharacter
theorem dX10_append_0 : decode cX10_append 0 = .ok (.iload_n 3, 1) := by decide +kernel
theorem dX10_append_1 : decode cX10_append 1 = .ok (.iconst 1, 1) := by decide +kernel
theorem dX10_append_2 : decode cX10_append 2 = .ok (.if_icmp .lt 21, 3) := by decide +kernel
theorem dX10_append_5 : decode cX10_append 5 = .ok (.iload_n 3, 1) := by decide +kernel
theorem dX10_append_6 : decode cX10_append 6 = .ok (.bipush 8, 2) := by decide +kernel
theorem dX10_append_8 : decode cX10_append 8 = .ok (.if_icmp .gt 15, 3) := by decide +kernel
theorem dX10_append_11 : decode cX10_append 11 = .ok (.aload_n 0, 1) := by decide +kernel
theorem dX10_append_12 : decode cX10_append 12 = .ok (.getfield 15, 3) := by decide +kernel
theorem dX10_append_15 : decode cX10_append 15 = .ok (.iload_n 3, 1) := by decide +kernel
theorem dX10_append_16 : decode cX10_append 16 = .ok (.iadd, 1) := by decide +kernel
theorem dX10_append_17 : decode cX10_append 17 = .ok (.sipush 4000, 3) := by decide +kernel
theorem dX10_append_20 : decode cX10_append 20 = .ok (.if_icmp .le 5, 3) := by decide +kernel
theorem dX10_append_23 : decode cX10_append 23 = .ok (.iconst 0, 1) := by decide +kernel
theorem dX10_append_24 : decode cX10_append 24 = .ok (.ireturn, 1) := by decide +kernel
theorem dX10_append_25 : decode cX10_append 25 = .ok (.iconst 0, 1) := by decide +kernel
theorem dX10_append_26 : decode cX10_append 26 = .ok (.istore 4, 2) := by decide +kernel
theorem dX10_append_28 : decode cX10_append 28 = .ok (.iload 4, 2) := by decide +kernel
theorem dX10_append_30 : decode cX10_append 30 = .ok (.iload_n 3, 1) := by decide +kernel
theorem dX10_append_31 : decode cX10_append 31 = .ok (.if_icmp .ge 33, 3) := by decide +kernel
theorem dX10_append_34 : decode cX10_append 34 = .ok (.lload_n 1, 1) := by decide +kernel
theorem dX10_append_35 : decode cX10_append 35 = .ok (.iload 4, 2) := by decide +kernel
theorem dX10_append_37 : decode cX10_append 37 = .ok (.invokestatic 31, 3) := by decide +kernel
theorem dX10_append_40 : decode cX10_append 40 = .ok (.istore 5, 2) := by decide +kernel
theorem dX10_append_42 : decode cX10_append 42 = .ok (.iload 5, 2) := by decide +kernel
theorem dX10_append_44 : decode cX10_append 44 = .ok (.bipush 32, 2) := by decide +kernel
theorem dX10_append_46 : decode cX10_append 46 = .ok (.if_icmp .lt 10, 3) := by decide +kernel
theorem dX10_append_49 : decode cX10_append 49 = .ok (.iload 5, 2) := by decide +kernel
theorem dX10_append_51 : decode cX10_append 51 = .ok (.bipush 126, 2) := by decide +kernel
theorem dX10_append_53 : decode cX10_append 53 = .ok (.if_icmp .le 5, 3) := by decide +kernel
theorem dX10_append_56 : decode cX10_append 56 = .ok (.iconst 0, 1) := by decide +kernel
theorem dX10_append_57 : decode cX10_append 57 = .ok (.ireturn, 1) := by decide +kernel
theorem dX10_append_58 : decode cX10_append 58 = .ok (.iinc 4 1, 3) := by decide +kernel
theorem dX10_append_61 : decode cX10_append 61 = .ok (.goto (-33), 3) := by decide +kernel
theorem dX10_append_64 : decode cX10_append 64 = .ok (.iload_n 3, 1) := by decide +kernel
theorem dX10_append_65 : decode cX10_append 65 = .ok (.iconst 1, 1) := by decide +kernel
theorem dX10_append_66 : decode cX10_append 66 = .ok (.isub, 1) := by decide +kernel
theorem dX10_append_67 : decode cX10_append 67 = .ok (.istore 4, 2) := by decide +kernel
theorem dX10_append_69 : decode cX10_append 69 = .ok (.iload 4, 2) := by decide +kernel
theorem dX10_append_71 : decode cX10_append 71 = .ok (.ifCond .lt 35, 3) := by decide +kernel
theorem dX10_append_74 : decode cX10_append 74 = .ok (.aload_n 0, 1) := by decide +kernel
theorem dX10_append_75 : decode cX10_append 75 = .ok (.getfield 9, 3) := by decide +kernel
theorem dX10_append_78 : decode cX10_append 78 = .ok (.aload_n 0, 1) := by decide +kernel
theorem dX10_append_79 : decode cX10_append 79 = .ok (.getfield 15, 3) := by decide +kernel
theorem dX10_append_82 : decode cX10_append 82 = .ok (.lload_n 1, 1) := by decide +kernel
theorem dX10_append_83 : decode cX10_append 83 = .ok (.iload 4, 2) := by decide +kernel
theorem dX10_append_85 : decode cX10_append 85 = .ok (.invokestatic 31, 3) := by decide +kernel
theorem dX10_append_88 : decode cX10_append 88 = .ok (.i2c, 1) := by decide +kernel
theorem dX10_append_89 : decode cX10_append 89 = .ok (.castore, 1) := by decide +kernel
theorem dX10_append_90 : decode cX10_append 90 = .ok (.aload_n 0, 1) := by decide +kernel
theorem dX10_append_91 : decode cX10_append 91 = .ok (.dup, 1) := by decide +kernel
theorem dX10_append_92 : decode cX10_append 92 = .ok (.getfield 15, 3) := by decide +kernel
theorem dX10_append_95 : decode cX10_append 95 = .ok (.iconst 1, 1) := by decide +kernel
theorem dX10_append_96 : decode cX10_append 96 = .ok (.iadd, 1) := by decide +kernel
theorem dX10_append_97 : decode cX10_append 97 = .ok (.putfield 15, 3) := by decide +kernel
theorem dX10_append_100 : decode cX10_append 100 = .ok (.iinc 4 (-1), 3) := by decide +kernel
theorem dX10_append_103 : decode cX10_append 103 = .ok (.goto (-34), 3) := by decide +kernel
theorem dX10_append_106 : decode cX10_append 106 = .ok (.iconst 1, 1) := by decide +kernel
theorem dX10_append_107 : decode cX10_append 107 = .ok (.ireturn, 1) := by decide +kernel
theorem dX10_typedCharacter_0 : decode cX10_typedCharacter 0 = .ok (.lload_n 0, 1) := by decide +kernel
theorem dX10_typedCharacter_1 : decode cX10_typedCharacter 1 = .ok (.bipush 8, 2) := by decide +kernel
theorem dX10_typedCharacter_3 : decode cX10_typedCharacter 3 = .ok (.iload_n 2, 1) := by decide +kernel
theorem dX10_typedCharacter_4 : decode cX10_typedCharacter 4 = .ok (.imul, 1) := by decide +kernel
theorem dX10_typedCharacter_5 : decode cX10_typedCharacter 5 = .ok (.lushr, 1) := by decide +kernel
theorem dX10_typedCharacter_6 : decode cX10_typedCharacter 6 = .ok (.l2i, 1) := by decide +kernel
theorem dX10_typedCharacter_7 : decode cX10_typedCharacter 7 = .ok (.sipush 255, 3) := by decide +kernel
theorem dX10_typedCharacter_10 : decode cX10_typedCharacter 10 = .ok (.iand, 1) := by decide +kernel
theorem dX10_typedCharacter_11 : decode cX10_typedCharacter 11 = .ok (.ireturn, 1) := by decide +kernel
set_option maxRecDepth 20000 in
theorem ggX10_goToStart_X10_advance : GoodIn wsX10_goToStart wsX10_advance := goodIn_r _ [6, 1, 7, 8, 9, 10, 11, 12, 13, 5, 14, 15, 16, 17, 18, 19, 20, 21, 22, 23, 24] (by decide +kernel) (by decide +kernel)
set_option maxRecDepth 20000 in
theorem gX10_goToStart_X10_advance : GoodIn wsX10_goToStart (wsV RX10 35 RX10 yX10_advance wsX10_advance) := goodIn_app (goodIn_of _ (by decide +kernel)) ggX10_goToStart_X10_advance
theorem dX10_goToStart_0 : decode cX10_goToStart 0 = .ok (.aload_n 0, 1) := by decide +kernel
theorem dX10_goToStart_1 : decode cX10_goToStart 1 = .ok (.iconst 0, 1) := by decide +kernel
theorem dX10_goToStart_2 : decode cX10_goToStart 2 = .ok (.putfield 28, 3) := by decide +kernel
theorem dX10_goToStart_5 : decode cX10_goToStart 5 = .ok (.aload_n 0, 1) := by decide +kernel
theorem dX10_goToStart_6 : decode cX10_goToStart 6 = .ok (.invokevirtual 35, 3) := by decide +kernel
theorem dX10_goToStart_9 : decode cX10_goToStart 9 = .ok (.return_, 1) := by decide +kernel
theorem dX10_advance_0 : decode cX10_advance 0 = .ok (.aload_n 0, 1) := by decide +kernel
theorem dX10_advance_1 : decode cX10_advance 1 = .ok (.getfield 28, 3) := by decide +kernel
theorem dX10_advance_4 : decode cX10_advance 4 = .ok (.aload_n 0, 1) := by decide +kernel
theorem dX10_advance_5 : decode cX10_advance 5 = .ok (.getfield 15, 3) := by decide +kernel
theorem dX10_advance_8 : decode cX10_advance 8 = .ok (.if_icmp .ge 30, 3) := by decide +kernel
theorem dX10_advance_11 : decode cX10_advance 11 = .ok (.aload_n 0, 1) := by decide +kernel
theorem dX10_advance_12 : decode cX10_advance 12 = .ok (.getfield 9, 3) := by decide +kernel
theorem dX10_advance_15 : decode cX10_advance 15 = .ok (.aload_n 0, 1) := by decide +kernel
theorem dX10_advance_16 : decode cX10_advance 16 = .ok (.getfield 28, 3) := by decide +kernel
theorem dX10_advance_19 : decode cX10_advance 19 = .ok (.caload, 1) := by decide +kernel
theorem dX10_advance_20 : decode cX10_advance 20 = .ok (.bipush 32, 2) := by decide +kernel
theorem dX10_advance_22 : decode cX10_advance 22 = .ok (.if_icmp .ne 16, 3) := by decide +kernel
theorem dX10_advance_25 : decode cX10_advance 25 = .ok (.aload_n 0, 1) := by decide +kernel
theorem dX10_advance_26 : decode cX10_advance 26 = .ok (.dup, 1) := by decide +kernel
theorem dX10_advance_27 : decode cX10_advance 27 = .ok (.getfield 28, 3) := by decide +kernel
theorem dX10_advance_30 : decode cX10_advance 30 = .ok (.iconst 1, 1) := by decide +kernel
theorem dX10_advance_31 : decode cX10_advance 31 = .ok (.iadd, 1) := by decide +kernel
theorem dX10_advance_32 : decode cX10_advance 32 = .ok (.putfield 28, 3) := by decide +kernel
theorem dX10_advance_35 : decode cX10_advance 35 = .ok (.goto (-35), 3) := by decide +kernel
theorem dX10_advance_38 : decode cX10_advance 38 = .ok (.aload_n 0, 1) := by decide +kernel
theorem dX10_advance_39 : decode cX10_advance 39 = .ok (.aload_n 0, 1) := by decide +kernel
theorem dX10_advance_40 : decode cX10_advance 40 = .ok (.getfield 28, 3) := by decide +kernel
theorem dX10_advance_43 : decode cX10_advance 43 = .ok (.putfield 22, 3) := by decide +kernel
theorem dX10_advance_46 : decode cX10_advance 46 = .ok (.aload_n 0, 1) := by decide +kernel
theorem dX10_advance_47 : decode cX10_advance 47 = .ok (.getfield 28, 3) := by decide +kernel
theorem dX10_advance_50 : decode cX10_advance 50 = .ok (.aload_n 0, 1) := by decide +kernel
theorem dX10_advance_51 : decode cX10_advance 51 = .ok (.getfield 15, 3) := by decide +kernel
theorem dX10_advance_54 : decode cX10_advance 54 = .ok (.if_icmp .lt 9, 3) := by decide +kernel
theorem dX10_advance_57 : decode cX10_advance 57 = .ok (.aload_n 0, 1) := by decide +kernel
theorem dX10_advance_58 : decode cX10_advance 58 = .ok (.iconst 0, 1) := by decide +kernel
theorem dX10_advance_59 : decode cX10_advance 59 = .ok (.putfield 19, 3) := by decide +kernel
theorem dX10_advance_62 : decode cX10_advance 62 = .ok (.return_, 1) := by decide +kernel
theorem dX10_advance_63 : decode cX10_advance 63 = .ok (.aload_n 0, 1) := by decide +kernel
theorem dX10_advance_64 : decode cX10_advance 64 = .ok (.invokevirtual 38, 3) := by decide +kernel
theorem dX10_advance_67 : decode cX10_advance 67 = .ok (.aload_n 0, 1) := by decide +kernel
theorem dX10_advance_68 : decode cX10_advance 68 = .ok (.getfield 28, 3) := by decide +kernel
theorem dX10_advance_71 : decode cX10_advance 71 = .ok (.aload_n 0, 1) := by decide +kernel
theorem dX10_advance_72 : decode cX10_advance 72 = .ok (.getfield 22, 3) := by decide +kernel
theorem dX10_advance_75 : decode cX10_advance 75 = .ok (.if_icmp .ne 45, 3) := by decide +kernel
theorem dX10_advance_78 : decode cX10_advance 78 = .ok (.aload_n 0, 1) := by decide +kernel
theorem dX10_advance_79 : decode cX10_advance 79 = .ok (.aload_n 0, 1) := by decide +kernel
theorem dX10_advance_80 : decode cX10_advance 80 = .ok (.getfield 9, 3) := by decide +kernel
theorem dX10_advance_83 : decode cX10_advance 83 = .ok (.aload_n 0, 1) := by decide +kernel
theorem dX10_advance_84 : decode cX10_advance 84 = .ok (.getfield 28, 3) := by decide +kernel
theorem dX10_advance_87 : decode cX10_advance 87 = .ok (.caload, 1) := by decide +kernel
theorem dX10_advance_88 : decode cX10_advance 88 = .ok (.invokestatic 41, 3) := by decide +kernel
theorem dX10_advance_91 : decode cX10_advance 91 = .ok (.ifCond .eq 15, 3) := by decide +kernel
theorem dX10_advance_94 : decode cX10_advance 94 = .ok (.aload_n 0, 1) := by decide +kernel
theorem dX10_advance_95 : decode cX10_advance 95 = .ok (.getfield 9, 3) := by decide +kernel
theorem dX10_advance_98 : decode cX10_advance 98 = .ok (.aload_n 0, 1) := by decide +kernel
theorem dX10_advance_99 : decode cX10_advance 99 = .ok (.getfield 28, 3) := by decide +kernel
theorem dX10_advance_102 : decode cX10_advance 102 = .ok (.caload, 1) := by decide +kernel
theorem dX10_advance_103 : decode cX10_advance 103 = .ok (.goto 4, 3) := by decide +kernel
theorem dX10_advance_106 : decode cX10_advance 106 = .ok (.iconst 1, 1) := by decide +kernel
theorem dX10_advance_107 : decode cX10_advance 107 = .ok (.putfield 19, 3) := by decide +kernel
theorem dX10_advance_110 : decode cX10_advance 110 = .ok (.aload_n 0, 1) := by decide +kernel
theorem dX10_advance_111 : decode cX10_advance 111 = .ok (.dup, 1) := by decide +kernel
theorem dX10_advance_112 : decode cX10_advance 112 = .ok (.getfield 28, 3) := by decide +kernel
theorem dX10_advance_115 : decode cX10_advance 115 = .ok (.iconst 1, 1) := by decide +kernel
theorem dX10_advance_116 : decode cX10_advance 116 = .ok (.iadd, 1) := by decide +kernel
theorem dX10_advance_117 : decode cX10_advance 117 = .ok (.putfield 28, 3) := by decide +kernel
theorem dX10_advance_120 : decode cX10_advance 120 = .ok (.return_, 1) := by decide +kernel
set_option maxRecDepth 20000 in
theorem ggX11_init_X5_init : GoodIn wsX11_init wsX5_init := goodIn_r _ [46, 47, 2, 3, 48, 49, 50, 51, 52, 53, 54, 36, 37, 55, 56, 57, 58, 59, 60, 61, 62, 63, 64, 65, 66, 67, 68, 69, 70, 8, 71, 72, 73, 74, 75, 76, 77, 78, 79, 80, 81, 82, 83, 84, 85, 86, 87, 88, 89, 90, 91, 92, 93, 94, 95, 96, 97, 98, 99, 176, 177, 178, 179, 180, 181, 182, 183, 184, 185, 186, 187, 188, 241, 242, 243, 244, 245, 246, 232, 233, 234, 235, 247, 248, 249, 250, 251, 252, 253, 254] rfl (by decide +kernel)
set_option maxRecDepth 20000 in
theorem gX11_init_X5_init_n11 : GoodIn wsX11_init (wsX5_init) := ggX11_init_X5_init
set_option maxRecDepth 20000 in
theorem ggX11_init_X8_init : GoodIn wsX11_init wsX8_init := goodIn_r _ [102, 103, 2, 3, 104, 105, 65, 106, 107, 62, 108, 109, 110, 111, 112, 113, 31, 32, 114, 115, 116, 117, 118, 119, 120, 121, 122, 123, 124, 125, 126, 127, 128, 129, 130, 131, 132, 133, 134, 135, 205, 206, 207, 208, 209, 210, 211, 212, 213, 214, 215, 216, 217, 229, 230, 231, 255, 256, 257] (by decide +kernel) (by decide +kernel)
set_option maxRecDepth 20000 in
theorem gX11_init_X8_init : GoodIn wsX11_init (wsX8_init) := ggX11_init_X8_init
set_option maxRecDepth 20000 in
theorem ggX11_init_X6_init : GoodIn wsX11_init wsX6_init := goodIn_r _ [138, 139, 2, 3, 65, 140, 56, 141, 142, 143, 31, 32, 144, 145, 146, 122, 123, 124, 125, 126, 127, 218, 219, 220, 221, 222, 229, 230, 231] (by decide +kernel) (by decide +kernel)
set_option maxRecDepth 20000 in
theorem gX11_init_X6_init : GoodIn wsX11_init (wsX6_init) := ggX11_init_X6_init
set_option maxRecDepth 20000 in
theorem ggX11_init_X4_init : GoodIn wsX11_init wsX4_init := goodIn_r _ [148, 149, 2, 3, 150, 31, 32, 151, 152, 153, 154, 155, 156, 118, 119, 157, 158, 122, 123, 124, 125, 126, 65, 127, 128, 129, 130, 131, 132, 133, 134, 135, 229, 230, 231, 223, 224, 225, 226, 227, 228, 255, 256, 257] (by decide +kernel) (by decide +kernel)
set_option maxRecDepth 20000 in
theorem gX11_init_X4_init_n63 : GoodIn wsX11_init (wsX4_init) := ggX11_init_X4_init
