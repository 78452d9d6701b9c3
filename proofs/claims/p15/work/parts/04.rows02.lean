theorem dX3_isMix_68 : decode cX3_isMix 68 = .ok (.aload_n 1, 1) := by decide +kernel
theorem dX3_isMix_69 : decode cX3_isMix 69 = .ok (.getfield 45, 3) := by decide +kernel
theorem dX3_isMix_72 : decode cX3_isMix 72 = .ok (.iload_n 2, 1) := by decide +kernel
theorem dX3_isMix_73 : decode cX3_isMix 73 = .ok (.iaload, 1) := by decide +kernel
theorem dX3_isMix_74 : decode cX3_isMix 74 = .ok (.iload_n 3, 1) := by decide +kernel
theorem dX3_isMix_75 : decode cX3_isMix 75 = .ok (.iadd, 1) := by decide +kernel
theorem dX3_isMix_76 : decode cX3_isMix 76 = .ok (.aaload, 1) := by decide +kernel
theorem dX3_isMix_77 : decode cX3_isMix 77 = .ok (.invokevirtual 48, 3) := by decide +kernel
theorem dX3_isMix_80 : decode cX3_isMix 80 = .ok (.iinc 3 1, 3) := by decide +kernel
theorem dX3_isMix_83 : decode cX3_isMix 83 = .ok (.goto (-33), 3) := by decide +kernel
theorem dX3_isMix_86 : decode cX3_isMix 86 = .ok (.aload_n 0, 1) := by decide +kernel
theorem dX3_isMix_87 : decode cX3_isMix 87 = .ok (.getfield 20, 3) := by decide +kernel
theorem dX3_isMix_90 : decode cX3_isMix 90 = .ok (.aload_n 0, 1) := by decide +kernel
theorem dX3_isMix_91 : decode cX3_isMix 91 = .ok (.getfield 11, 3) := by decide +kernel
theorem dX3_isMix_94 : decode cX3_isMix 94 = .ok (.aload_n 1, 1) := by decide +kernel
theorem dX3_isMix_95 : decode cX3_isMix 95 = .ok (.getfield 52, 3) := by decide +kernel
theorem dX3_isMix_98 : decode cX3_isMix 98 = .ok (.iload_n 2, 1) := by decide +kernel
theorem dX3_isMix_99 : decode cX3_isMix 99 = .ok (.iaload, 1) := by decide +kernel
theorem dX3_isMix_100 : decode cX3_isMix 100 = .ok (.aaload, 1) := by decide +kernel
theorem dX3_isMix_101 : decode cX3_isMix 101 = .ok (.invokevirtual 55, 3) := by decide +kernel
theorem dX3_isMix_104 : decode cX3_isMix 104 = .ok (.ifCond .eq 5, 3) := by decide +kernel
theorem dX3_isMix_107 : decode cX3_isMix 107 = .ok (.iconst 0, 1) := by decide +kernel
theorem dX3_isMix_108 : decode cX3_isMix 108 = .ok (.ireturn, 1) := by decide +kernel
theorem dX3_isMix_109 : decode cX3_isMix 109 = .ok (.iinc 2 1, 3) := by decide +kernel
theorem dX3_isMix_112 : decode cX3_isMix 112 = .ok (.goto (-80), 3) := by decide +kernel
theorem dX3_isMix_115 : decode cX3_isMix 115 = .ok (.aload_n 0, 1) := by decide +kernel
theorem dX3_isMix_116 : decode cX3_isMix 116 = .ok (.getfield 11, 3) := by decide +kernel
theorem dX3_isMix_119 : decode cX3_isMix 119 = .ok (.iconst 0, 1) := by decide +kernel
theorem dX3_isMix_120 : decode cX3_isMix 120 = .ok (.aaload, 1) := by decide +kernel
theorem dX3_isMix_121 : decode cX3_isMix 121 = .ok (.invokevirtual 30, 3) := by decide +kernel
theorem dX3_isMix_124 : decode cX3_isMix 124 = .ok (.ifCond .le 7, 3) := by decide +kernel
theorem dX3_isMix_127 : decode cX3_isMix 127 = .ok (.iconst 1, 1) := by decide +kernel
theorem dX3_isMix_128 : decode cX3_isMix 128 = .ok (.goto 4, 3) := by decide +kernel
theorem dX3_isMix_131 : decode cX3_isMix 131 = .ok (.iconst 0, 1) := by decide +kernel
theorem dX3_isMix_132 : decode cX3_isMix 132 = .ok (.ireturn, 1) := by decide +kernel
set_option maxRecDepth 20000 in
theorem ggX4_init_X0_init : GoodIn wsX4_init wsX0_init := goodIn_s _ [(18, 2), (2, 2), (20, 4), (32, 3)] rfl (by decide +kernel)
set_option maxRecDepth 20000 in
theorem gX4_init_X0_init : GoodIn wsX4_init (wsX0_init) := ggX4_init_X0_init
set_option maxRecDepth 20000 in
theorem ggX4_init_X1_init : GoodIn wsX4_init wsX1_init := goodIn_s _ [(25, 2), (2, 2), (27, 1), (5, 2), (28, 4), (17, 7), (32, 3), (41, 3)] rfl (by decide +kernel)
set_option maxRecDepth 20000 in
theorem gX4_init_X1_init_n35 : GoodIn wsX4_init (wsX1_init) := ggX4_init_X1_init
theorem dX4_init_0 : decode cX4_init 0 = .ok (.aload_n 0, 1) := by decide +kernel
theorem dX4_init_1 : decode cX4_init 1 = .ok (.invokespecial 3, 3) := by decide +kernel
theorem dX4_init_4 : decode cX4_init 4 = .ok (.aload_n 0, 1) := by decide +kernel
theorem dX4_init_5 : decode cX4_init 5 = .ok (.new 9, 3) := by decide +kernel
theorem dX4_init_8 : decode cX4_init 8 = .ok (.dup, 1) := by decide +kernel
theorem dX4_init_9 : decode cX4_init 9 = .ok (.bipush 32, 2) := by decide +kernel
theorem dX4_init_11 : decode cX4_init 11 = .ok (.invokespecial 11, 3) := by decide +kernel
theorem dX4_init_14 : decode cX4_init 14 = .ok (.putfield 14, 3) := by decide +kernel
theorem dX4_init_17 : decode cX4_init 17 = .ok (.aload_n 0, 1) := by decide +kernel
theorem dX4_init_18 : decode cX4_init 18 = .ok (.new 9, 3) := by decide +kernel
theorem dX4_init_21 : decode cX4_init 21 = .ok (.dup, 1) := by decide +kernel
theorem dX4_init_22 : decode cX4_init 22 = .ok (.bipush 32, 2) := by decide +kernel
theorem dX4_init_24 : decode cX4_init 24 = .ok (.invokespecial 11, 3) := by decide +kernel
theorem dX4_init_27 : decode cX4_init 27 = .ok (.putfield 20, 3) := by decide +kernel
theorem dX4_init_30 : decode cX4_init 30 = .ok (.aload_n 0, 1) := by decide +kernel
theorem dX4_init_31 : decode cX4_init 31 = .ok (.iconst 0, 1) := by decide +kernel
theorem dX4_init_32 : decode cX4_init 32 = .ok (.putfield 23, 3) := by decide +kernel
theorem dX4_init_35 : decode cX4_init 35 = .ok (.aload_n 0, 1) := by decide +kernel
theorem dX4_init_36 : decode cX4_init 36 = .ok (.new 9, 3) := by decide +kernel
theorem dX4_init_39 : decode cX4_init 39 = .ok (.dup, 1) := by decide +kernel
theorem dX4_init_40 : decode cX4_init 40 = .ok (.bipush 64, 2) := by decide +kernel
theorem dX4_init_42 : decode cX4_init 42 = .ok (.invokespecial 11, 3) := by decide +kernel
theorem dX4_init_45 : decode cX4_init 45 = .ok (.putfield 27, 3) := by decide +kernel
theorem dX4_init_48 : decode cX4_init 48 = .ok (.aload_n 0, 1) := by decide +kernel
theorem dX4_init_49 : decode cX4_init 49 = .ok (.new 9, 3) := by decide +kernel
theorem dX4_init_52 : decode cX4_init 52 = .ok (.dup, 1) := by decide +kernel
theorem dX4_init_53 : decode cX4_init 53 = .ok (.bipush 64, 2) := by decide +kernel
theorem dX4_init_55 : decode cX4_init 55 = .ok (.invokespecial 11, 3) := by decide +kernel
theorem dX4_init_58 : decode cX4_init 58 = .ok (.putfield 30, 3) := by decide +kernel
theorem dX4_init_61 : decode cX4_init 61 = .ok (.aload_n 0, 1) := by decide +kernel
theorem dX4_init_62 : decode cX4_init 62 = .ok (.new 33, 3) := by decide +kernel
theorem dX4_init_65 : decode cX4_init 65 = .ok (.dup, 1) := by decide +kernel
theorem dX4_init_66 : decode cX4_init 66 = .ok (.invokespecial 35, 3) := by decide +kernel
theorem dX4_init_69 : decode cX4_init 69 = .ok (.putfield 36, 3) := by decide +kernel
theorem dX4_init_72 : decode cX4_init 72 = .ok (.return_, 1) := by decide +kernel
set_option maxRecDepth 20000 in
theorem ggX4_put_X0_copy : GoodIn wsX4_put wsX0_copy := goodIn_s _ [(11, 12), (112, 3)] rfl (by decide +kernel)
set_option maxRecDepth 20000 in
theorem gX4_put_X0_copy : GoodIn wsX4_put (wsV RX4 40 RX0 yX0_copy wsX0_copy) := goodIn_app (goodIn_r _ [7, 8, 9, 10] rfl (by decide +kernel)) ggX4_put_X0_copy
set_option maxRecDepth 20000 in
theorem ggX4_put_X0_scale : GoodIn wsX4_put wsX0_scale := goodIn_s _ [(26, 1), (12, 2), (27, 4), (10, 1), (31, 1), (22, 1), (112, 3)] rfl (by decide +kernel)
set_option maxRecDepth 20000 in
theorem gX4_put_X0_scale : GoodIn wsX4_put (wsV RX4 44 RX0 yX0_scale wsX0_scale) := goodIn_app (goodIn_r _ [23, 24, 25, 10] rfl (by decide +kernel)) ggX4_put_X0_scale
set_option maxRecDepth 20000 in
theorem ggX4_put_X0_put : GoodIn wsX4_put wsX0_put := goodIn_s _ [(35, 1), (22, 1), (12, 2), (112, 3)] rfl (by decide +kernel)
set_option maxRecDepth 20000 in
theorem gX4_put_X0_put : GoodIn wsX4_put (wsV RX4 52 RX0 yX0_put wsX0_put) := goodIn_app (goodIn_r _ [32, 33, 34, 10] rfl (by decide +kernel)) ggX4_put_X0_put
set_option maxRecDepth 20000 in
theorem ggX4_put_X4_shareTwos : GoodIn wsX4_put wsX4_shareTwos := goodIn_s _ [(40, 1), (1, 2), (41, 1), (15, 3), (42, 3), (10, 1), (45, 1), (12, 2), (46, 16), (27, 5), (22, 1), (106, 9)] rfl (by decide +kernel)
set_option maxRecDepth 20000 in
theorem gX4_put_X4_shareTwos : GoodIn wsX4_put (wsV RX4 55 RX4 yX4_shareTwos wsX4_shareTwos) := goodIn_app (goodIn_r _ [36, 37, 38, 39] rfl (by decide +kernel)) ggX4_put_X4_shareTwos
set_option maxRecDepth 20000 in
theorem ggX4_put_X4_findOddDivisor : GoodIn wsX4_put wsX4_findOddDivisor := goodIn_s _ [(65, 1), (5, 1), (1, 1), (66, 2), (2, 1), (68, 1), (7, 16), (42, 20), (27, 5), (69, 8), (106, 9)] rfl (by decide +kernel)
set_option maxRecDepth 20000 in
theorem gX4_put_X4_findOddDivisor : GoodIn wsX4_put (wsV RX4 58 RX4 yX4_findOddDivisor wsX4_findOddDivisor) := goodIn_app (goodIn_r _ [62, 63, 64, 39] rfl (by decide +kernel)) ggX4_put_X4_findOddDivisor
set_option maxRecDepth 20000 in
theorem ggX4_put_X1_prepare : GoodIn wsX4_put wsX1_prepare := goodIn_s _ [(81, 7), (8, 15), (88, 1), (43, 8), (89, 1), (52, 10), (27, 5), (115, 3), (112, 3)] rfl (by decide +kernel)
set_option maxRecDepth 20000 in
theorem gX4_put_X1_prepare : GoodIn wsX4_put (wsV RX4 61 RX1 yX1_prepare wsX1_prepare) := goodIn_app (goodIn_r _ [77, 78, 79, 80] rfl (by decide +kernel)) ggX4_put_X1_prepare
set_option maxRecDepth 20000 in
theorem ggX4_put_X1_divide : GoodIn wsX4_put wsX1_divide := goodIn_s _ [(93, 1), (83, 1), (82, 1), (84, 1), (94, 1), (56, 1), (16, 1), (57, 1), (85, 2), (95, 1), (89, 1), (52, 2), (10, 1), (54, 1), (12, 1), (55, 1), (13, 1), (58, 4), (27, 5), (22, 1), (96, 7), (80, 1), (103, 2), (15, 1), (17, 1), (105, 1), (115, 3), (112, 3)] rfl (by decide +kernel)
set_option maxRecDepth 20000 in
theorem gX4_put_X1_divide : GoodIn wsX4_put (wsV RX4 64 RX1 yX1_divide wsX1_divide) := goodIn_app (goodIn_r _ [90, 91, 92, 80] rfl (by decide +kernel)) ggX4_put_X1_divide
theorem dX4_put_0 : decode cX4_put 0 = .ok (.aload_n 0, 1) := by decide +kernel
theorem dX4_put_1 : decode cX4_put 1 = .ok (.getfield 14, 3) := by decide +kernel
theorem dX4_put_4 : decode cX4_put 4 = .ok (.aload_n 1, 1) := by decide +kernel
theorem dX4_put_5 : decode cX4_put 5 = .ok (.invokevirtual 40, 3) := by decide +kernel
theorem dX4_put_8 : decode cX4_put 8 = .ok (.aload_n 0, 1) := by decide +kernel
theorem dX4_put_9 : decode cX4_put 9 = .ok (.getfield 20, 3) := by decide +kernel
theorem dX4_put_12 : decode cX4_put 12 = .ok (.aload_n 2, 1) := by decide +kernel
theorem dX4_put_13 : decode cX4_put 13 = .ok (.invokevirtual 40, 3) := by decide +kernel
theorem dX4_put_16 : decode cX4_put 16 = .ok (.aload_n 0, 1) := by decide +kernel
theorem dX4_put_17 : decode cX4_put 17 = .ok (.getfield 20, 3) := by decide +kernel
theorem dX4_put_20 : decode cX4_put 20 = .ok (.lload_n 3, 1) := by decide +kernel
theorem dX4_put_21 : decode cX4_put 21 = .ok (.invokevirtual 44, 3) := by decide +kernel
theorem dX4_put_24 : decode cX4_put 24 = .ok (.aload_n 0, 1) := by decide +kernel
theorem dX4_put_25 : decode cX4_put 25 = .ok (.getfield 14, 3) := by decide +kernel
theorem dX4_put_28 : decode cX4_put 28 = .ok (.getfield 48, 3) := by decide +kernel
theorem dX4_put_31 : decode cX4_put 31 = .ok (.ifCond .ne 14, 3) := by decide +kernel
theorem dX4_put_34 : decode cX4_put 34 = .ok (.aload_n 0, 1) := by decide +kernel
theorem dX4_put_35 : decode cX4_put 35 = .ok (.getfield 20, 3) := by decide +kernel
theorem dX4_put_38 : decode cX4_put 38 = .ok (.lconst 1, 1) := by decide +kernel
theorem dX4_put_39 : decode cX4_put 39 = .ok (.invokevirtual 52, 3) := by decide +kernel
theorem dX4_put_42 : decode cX4_put 42 = .ok (.goto 44, 3) := by decide +kernel
theorem dX4_put_45 : decode cX4_put 45 = .ok (.aload_n 0, 1) := by decide +kernel
theorem dX4_put_46 : decode cX4_put 46 = .ok (.invokevirtual 55, 3) := by decide +kernel
theorem dX4_put_49 : decode cX4_put 49 = .ok (.aload_n 0, 1) := by decide +kernel
theorem dX4_put_50 : decode cX4_put 50 = .ok (.invokevirtual 58, 3) := by decide +kernel
theorem dX4_put_53 : decode cX4_put 53 = .ok (.aload_n 0, 1) := by decide +kernel
theorem dX4_put_54 : decode cX4_put 54 = .ok (.getfield 36, 3) := by decide +kernel
theorem dX4_put_57 : decode cX4_put 57 = .ok (.aload_n 0, 1) := by decide +kernel
theorem dX4_put_58 : decode cX4_put 58 = .ok (.getfield 27, 3) := by decide +kernel
theorem dX4_put_61 : decode cX4_put 61 = .ok (.invokevirtual 61, 3) := by decide +kernel
theorem dX4_put_64 : decode cX4_put 64 = .ok (.aload_n 0, 1) := by decide +kernel
theorem dX4_put_65 : decode cX4_put 65 = .ok (.getfield 36, 3) := by decide +kernel
theorem dX4_put_68 : decode cX4_put 68 = .ok (.aload_n 0, 1) := by decide +kernel
theorem dX4_put_69 : decode cX4_put 69 = .ok (.getfield 14, 3) := by decide +kernel
theorem dX4_put_72 : decode cX4_put 72 = .ok (.invokevirtual 64, 3) := by decide +kernel
theorem dX4_put_75 : decode cX4_put 75 = .ok (.aload_n 0, 1) := by decide +kernel
theorem dX4_put_76 : decode cX4_put 76 = .ok (.getfield 36, 3) := by decide +kernel
theorem dX4_put_79 : decode cX4_put 79 = .ok (.aload_n 0, 1) := by decide +kernel
theorem dX4_put_80 : decode cX4_put 80 = .ok (.getfield 20, 3) := by decide +kernel
theorem dX4_put_83 : decode cX4_put 83 = .ok (.invokevirtual 64, 3) := by decide +kernel
theorem dX4_put_86 : decode cX4_put 86 = .ok (.aload_n 0, 1) := by decide +kernel
theorem dX4_put_87 : decode cX4_put 87 = .ok (.iconst 1, 1) := by decide +kernel
theorem dX4_put_88 : decode cX4_put 88 = .ok (.putfield 23, 3) := by decide +kernel
theorem dX4_put_91 : decode cX4_put 91 = .ok (.return_, 1) := by decide +kernel
set_option maxRecDepth 20000 in
theorem ggX4_shareTwos_X0_lowZeros : GoodIn wsX4_shareTwos wsX0_lowZeros := goodIn_s _ [(11, 8), (42, 3)] rfl (by decide +kernel)
set_option maxRecDepth 20000 in
theorem gX4_shareTwos_X0_lowZeros : GoodIn wsX4_shareTwos (wsV RX4 67 RX0 yX0_lowZeros wsX0_lowZeros) := goodIn_app (goodIn_r _ [7, 8, 9, 10] rfl (by decide +kernel)) ggX4_shareTwos_X0_lowZeros
set_option maxRecDepth 20000 in
theorem ggX4_shareTwos_X0_shiftDown : GoodIn wsX4_shareTwos wsX0_shiftDown := goodIn_s _ [(22, 1), (12, 1), (23, 2), (5, 1), (25, 1), (13, 1), (26, 3), (10, 1), (29, 7), (42, 3)] rfl (by decide +kernel)
set_option maxRecDepth 20000 in
theorem gX4_shareTwos_X0_shiftDown : GoodIn wsX4_shareTwos (wsV RX4 77 RX0 yX0_shiftDown wsX0_shiftDown) := goodIn_app (goodIn_r _ [19, 20, 21, 10] rfl (by decide +kernel)) ggX4_shareTwos_X0_shiftDown
theorem dX4_shareTwos_0 : decode cX4_shareTwos 0 = .ok (.aload_n 0, 1) := by decide +kernel
theorem dX4_shareTwos_1 : decode cX4_shareTwos 1 = .ok (.getfield 14, 3) := by decide +kernel
theorem dX4_shareTwos_4 : decode cX4_shareTwos 4 = .ok (.invokevirtual 67, 3) := by decide +kernel
theorem dX4_shareTwos_7 : decode cX4_shareTwos 7 = .ok (.aload_n 0, 1) := by decide +kernel
theorem dX4_shareTwos_8 : decode cX4_shareTwos 8 = .ok (.getfield 20, 3) := by decide +kernel
theorem dX4_shareTwos_11 : decode cX4_shareTwos 11 = .ok (.invokevirtual 67, 3) := by decide +kernel
theorem dX4_shareTwos_14 : decode cX4_shareTwos 14 = .ok (.invokestatic 71, 3) := by decide +kernel
theorem dX4_shareTwos_17 : decode cX4_shareTwos 17 = .ok (.istore_n 1, 1) := by decide +kernel
theorem dX4_shareTwos_18 : decode cX4_shareTwos 18 = .ok (.aload_n 0, 1) := by decide +kernel
theorem dX4_shareTwos_19 : decode cX4_shareTwos 19 = .ok (.getfield 14, 3) := by decide +kernel
theorem dX4_shareTwos_22 : decode cX4_shareTwos 22 = .ok (.iload_n 1, 1) := by decide +kernel
theorem dX4_shareTwos_23 : decode cX4_shareTwos 23 = .ok (.invokevirtual 77, 3) := by decide +kernel
theorem dX4_shareTwos_26 : decode cX4_shareTwos 26 = .ok (.aload_n 0, 1) := by decide +kernel
theorem dX4_shareTwos_27 : decode cX4_shareTwos 27 = .ok (.getfield 20, 3) := by decide +kernel
theorem dX4_shareTwos_30 : decode cX4_shareTwos 30 = .ok (.iload_n 1, 1) := by decide +kernel
theorem dX4_shareTwos_31 : decode cX4_shareTwos 31 = .ok (.invokevirtual 77, 3) := by decide +kernel
theorem dX4_shareTwos_34 : decode cX4_shareTwos 34 = .ok (.return_, 1) := by decide +kernel
set_option maxRecDepth 20000 in
theorem ggX4_findOddDivisor_X0_copy : GoodIn wsX4_findOddDivisor wsX0_copy := goodIn_s _ [(11, 12), (62, 3)] rfl (by decide +kernel)
set_option maxRecDepth 20000 in
theorem gX4_findOddDivisor_X0_copy : GoodIn wsX4_findOddDivisor (wsV RX4 40 RX0 yX0_copy wsX0_copy) := goodIn_app (goodIn_r _ [7, 8, 9, 10] rfl (by decide +kernel)) ggX4_findOddDivisor_X0_copy
set_option maxRecDepth 20000 in
theorem ggX4_findOddDivisor_X0_lowZeros : GoodIn wsX4_findOddDivisor wsX0_lowZeros := goodIn_s _ [(26, 1), (12, 2), (27, 5), (62, 3)] rfl (by decide +kernel)
set_option maxRecDepth 20000 in
theorem gX4_findOddDivisor_X0_lowZeros : GoodIn wsX4_findOddDivisor (wsV RX4 67 RX0 yX0_lowZeros wsX0_lowZeros) := goodIn_app (goodIn_r _ [23, 24, 25, 10] rfl (by decide +kernel)) ggX4_findOddDivisor_X0_lowZeros
set_option maxRecDepth 20000 in
theorem ggX4_findOddDivisor_X0_shiftDown : GoodIn wsX4_findOddDivisor wsX0_shiftDown := goodIn_s _ [(35, 1), (12, 1), (36, 2), (16, 1), (38, 1), (13, 1), (39, 3), (10, 1), (42, 6), (22, 1), (62, 3)] rfl (by decide +kernel)
set_option maxRecDepth 20000 in
theorem gX4_findOddDivisor_X0_shiftDown : GoodIn wsX4_findOddDivisor (wsV RX4 77 RX0 yX0_shiftDown wsX0_shiftDown) := goodIn_app (goodIn_r _ [32, 33, 34, 10] rfl (by decide +kernel)) ggX4_findOddDivisor_X0_shiftDown
set_option maxRecDepth 20000 in
theorem ggX4_findOddDivisor_X0_orderOfSizes : GoodIn wsX4_findOddDivisor wsX0_orderOfSizes := goodIn_s _ [(51, 1), (12, 2), (39, 3), (10, 1), (42, 2), (62, 3)] rfl (by decide +kernel)
set_option maxRecDepth 20000 in
theorem gX4_findOddDivisor_X0_orderOfSizes : GoodIn wsX4_findOddDivisor (wsV RX4 84 RX0 yX0_orderOfSizes wsX0_orderOfSizes) := goodIn_app (goodIn_r _ [48, 49, 50, 10] rfl (by decide +kernel)) ggX4_findOddDivisor_X0_orderOfSizes
set_option maxRecDepth 20000 in
theorem ggX4_findOddDivisor_X0_putDifference : GoodIn wsX4_findOddDivisor wsX0_putDifference := goodIn_s _ [(55, 1), (12, 6), (43, 4), (10, 1), (47, 1), (22, 1), (62, 3)] rfl (by decide +kernel)
set_option maxRecDepth 20000 in
theorem gX4_findOddDivisor_X0_putDifference : GoodIn wsX4_findOddDivisor (wsV RX4 88 RX0 yX0_putDifference wsX0_putDifference) := goodIn_app (goodIn_r _ [52, 53, 54, 10] rfl (by decide +kernel)) ggX4_findOddDivisor_X0_putDifference
theorem dX4_findOddDivisor_0 : decode cX4_findOddDivisor 0 = .ok (.aload_n 0, 1) := by decide +kernel
theorem dX4_findOddDivisor_1 : decode cX4_findOddDivisor 1 = .ok (.getfield 27, 3) := by decide +kernel
theorem dX4_findOddDivisor_4 : decode cX4_findOddDivisor 4 = .ok (.aload_n 0, 1) := by decide +kernel
theorem dX4_findOddDivisor_5 : decode cX4_findOddDivisor 5 = .ok (.getfield 14, 3) := by decide +kernel
theorem dX4_findOddDivisor_8 : decode cX4_findOddDivisor 8 = .ok (.invokevirtual 40, 3) := by decide +kernel
theorem dX4_findOddDivisor_11 : decode cX4_findOddDivisor 11 = .ok (.aload_n 0, 1) := by decide +kernel
theorem dX4_findOddDivisor_12 : decode cX4_findOddDivisor 12 = .ok (.getfield 27, 3) := by decide +kernel
theorem dX4_findOddDivisor_15 : decode cX4_findOddDivisor 15 = .ok (.iconst 0, 1) := by decide +kernel
theorem dX4_findOddDivisor_16 : decode cX4_findOddDivisor 16 = .ok (.putfield 80, 3) := by decide +kernel
theorem dX4_findOddDivisor_19 : decode cX4_findOddDivisor 19 = .ok (.aload_n 0, 1) := by decide +kernel
theorem dX4_findOddDivisor_20 : decode cX4_findOddDivisor 20 = .ok (.getfield 27, 3) := by decide +kernel
theorem dX4_findOddDivisor_23 : decode cX4_findOddDivisor 23 = .ok (.aload_n 0, 1) := by decide +kernel
theorem dX4_findOddDivisor_24 : decode cX4_findOddDivisor 24 = .ok (.getfield 27, 3) := by decide +kernel
theorem dX4_findOddDivisor_27 : decode cX4_findOddDivisor 27 = .ok (.invokevirtual 67, 3) := by decide +kernel
theorem dX4_findOddDivisor_30 : decode cX4_findOddDivisor 30 = .ok (.invokevirtual 77, 3) := by decide +kernel
theorem dX4_findOddDivisor_33 : decode cX4_findOddDivisor 33 = .ok (.aload_n 0, 1) := by decide +kernel
theorem dX4_findOddDivisor_34 : decode cX4_findOddDivisor 34 = .ok (.getfield 30, 3) := by decide +kernel
theorem dX4_findOddDivisor_37 : decode cX4_findOddDivisor 37 = .ok (.aload_n 0, 1) := by decide +kernel
theorem dX4_findOddDivisor_38 : decode cX4_findOddDivisor 38 = .ok (.getfield 20, 3) := by decide +kernel
theorem dX4_findOddDivisor_41 : decode cX4_findOddDivisor 41 = .ok (.invokevirtual 40, 3) := by decide +kernel
theorem dX4_findOddDivisor_44 : decode cX4_findOddDivisor 44 = .ok (.aload_n 0, 1) := by decide +kernel
theorem dX4_findOddDivisor_45 : decode cX4_findOddDivisor 45 = .ok (.getfield 30, 3) := by decide +kernel
theorem dX4_findOddDivisor_48 : decode cX4_findOddDivisor 48 = .ok (.aload_n 0, 1) := by decide +kernel
theorem dX4_findOddDivisor_49 : decode cX4_findOddDivisor 49 = .ok (.getfield 30, 3) := by decide +kernel
theorem dX4_findOddDivisor_52 : decode cX4_findOddDivisor 52 = .ok (.invokevirtual 67, 3) := by decide +kernel
theorem dX4_findOddDivisor_55 : decode cX4_findOddDivisor 55 = .ok (.invokevirtual 77, 3) := by decide +kernel
theorem dX4_findOddDivisor_58 : decode cX4_findOddDivisor 58 = .ok (.iconst 0, 1) := by decide +kernel
theorem dX4_findOddDivisor_59 : decode cX4_findOddDivisor 59 = .ok (.istore_n 1, 1) := by decide +kernel
theorem dX4_findOddDivisor_60 : decode cX4_findOddDivisor 60 = .ok (.iload_n 1, 1) := by decide +kernel
theorem dX4_findOddDivisor_61 : decode cX4_findOddDivisor 61 = .ok (.ldc 83, 2) := by decide +kernel
theorem dX4_findOddDivisor_63 : decode cX4_findOddDivisor 63 = .ok (.if_icmp .ge 70, 3) := by decide +kernel
theorem dX4_findOddDivisor_66 : decode cX4_findOddDivisor 66 = .ok (.aload_n 0, 1) := by decide +kernel
theorem dX4_findOddDivisor_67 : decode cX4_findOddDivisor 67 = .ok (.getfield 27, 3) := by decide +kernel
theorem dX4_findOddDivisor_70 : decode cX4_findOddDivisor 70 = .ok (.aload_n 0, 1) := by decide +kernel
theorem dX4_findOddDivisor_71 : decode cX4_findOddDivisor 71 = .ok (.getfield 30, 3) := by decide +kernel
theorem dX4_findOddDivisor_74 : decode cX4_findOddDivisor 74 = .ok (.invokevirtual 84, 3) := by decide +kernel
theorem dX4_findOddDivisor_77 : decode cX4_findOddDivisor 77 = .ok (.istore_n 2, 1) := by decide +kernel
theorem dX4_findOddDivisor_78 : decode cX4_findOddDivisor 78 = .ok (.iload_n 2, 1) := by decide +kernel
theorem dX4_findOddDivisor_79 : decode cX4_findOddDivisor 79 = .ok (.ifCond .ne 4, 3) := by decide +kernel
theorem dX4_findOddDivisor_82 : decode cX4_findOddDivisor 82 = .ok (.return_, 1) := by decide +kernel
theorem dX4_findOddDivisor_83 : decode cX4_findOddDivisor 83 = .ok (.iload_n 2, 1) := by decide +kernel
theorem dX4_findOddDivisor_84 : decode cX4_findOddDivisor 84 = .ok (.ifCond .le 10, 3) := by decide +kernel
theorem dX4_findOddDivisor_87 : decode cX4_findOddDivisor 87 = .ok (.aload_n 0, 1) := by decide +kernel
theorem dX4_findOddDivisor_88 : decode cX4_findOddDivisor 88 = .ok (.getfield 27, 3) := by decide +kernel
theorem dX4_findOddDivisor_91 : decode cX4_findOddDivisor 91 = .ok (.goto 7, 3) := by decide +kernel
theorem dX4_findOddDivisor_94 : decode cX4_findOddDivisor 94 = .ok (.aload_n 0, 1) := by decide +kernel
theorem dX4_findOddDivisor_95 : decode cX4_findOddDivisor 95 = .ok (.getfield 30, 3) := by decide +kernel
theorem dX4_findOddDivisor_98 : decode cX4_findOddDivisor 98 = .ok (.astore_n 3, 1) := by decide +kernel
theorem dX4_findOddDivisor_99 : decode cX4_findOddDivisor 99 = .ok (.aload_n 3, 1) := by decide +kernel
theorem dX4_findOddDivisor_100 : decode cX4_findOddDivisor 100 = .ok (.aload_n 3, 1) := by decide +kernel
theorem dX4_findOddDivisor_101 : decode cX4_findOddDivisor 101 = .ok (.iload_n 2, 1) := by decide +kernel
theorem dX4_findOddDivisor_102 : decode cX4_findOddDivisor 102 = .ok (.ifCond .le 10, 3) := by decide +kernel
theorem dX4_findOddDivisor_105 : decode cX4_findOddDivisor 105 = .ok (.aload_n 0, 1) := by decide +kernel
theorem dX4_findOddDivisor_106 : decode cX4_findOddDivisor 106 = .ok (.getfield 30, 3) := by decide +kernel
theorem dX4_findOddDivisor_109 : decode cX4_findOddDivisor 109 = .ok (.goto 7, 3) := by decide +kernel
theorem dX4_findOddDivisor_112 : decode cX4_findOddDivisor 112 = .ok (.aload_n 0, 1) := by decide +kernel
theorem dX4_findOddDivisor_113 : decode cX4_findOddDivisor 113 = .ok (.getfield 27, 3) := by decide +kernel
theorem dX4_findOddDivisor_116 : decode cX4_findOddDivisor 116 = .ok (.invokevirtual 88, 3) := by decide +kernel
theorem dX4_findOddDivisor_119 : decode cX4_findOddDivisor 119 = .ok (.aload_n 3, 1) := by decide +kernel
theorem dX4_findOddDivisor_120 : decode cX4_findOddDivisor 120 = .ok (.aload_n 3, 1) := by decide +kernel
theorem dX4_findOddDivisor_121 : decode cX4_findOddDivisor 121 = .ok (.invokevirtual 67, 3) := by decide +kernel
theorem dX4_findOddDivisor_124 : decode cX4_findOddDivisor 124 = .ok (.invokevirtual 77, 3) := by decide +kernel
theorem dX4_findOddDivisor_127 : decode cX4_findOddDivisor 127 = .ok (.iinc 1 1, 3) := by decide +kernel
theorem dX4_findOddDivisor_130 : decode cX4_findOddDivisor 130 = .ok (.goto (-70), 3) := by decide +kernel
theorem dX4_findOddDivisor_133 : decode cX4_findOddDivisor 133 = .ok (.return_, 1) := by decide +kernel
set_option maxRecDepth 20000 in
theorem ggX4_order_X0_putProduct : GoodIn wsX4_order wsX0_putProduct := goodIn_s _ [(9, 11), (8, 1), (20, 10), (48, 3)] rfl (by decide +kernel)
set_option maxRecDepth 20000 in
theorem gX4_order_X0_putProduct : GoodIn wsX4_order (wsV RX4 92 RX0 yX0_putProduct wsX0_putProduct) := goodIn_app (goodIn_r _ [5, 6, 7, 8] rfl (by decide +kernel)) ggX4_order_X0_putProduct
set_option maxRecDepth 20000 in
theorem ggX4_order_X0_order : GoodIn wsX4_order wsX0_order := goodIn_s _ [(33, 1), (16, 1), (34, 3), (8, 1), (37, 1), (10, 1), (38, 4), (11, 1), (17, 5), (48, 3)] rfl (by decide +kernel)
set_option maxRecDepth 20000 in
theorem gX4_order_X0_order : GoodIn wsX4_order (wsV RX4 95 RX0 yX0_order wsX0_order) := goodIn_app (goodIn_r _ [30, 31, 32, 8] rfl (by decide +kernel)) ggX4_order_X0_order
theorem dX4_order_0 : decode cX4_order 0 = .ok (.aload_n 0, 1) := by decide +kernel
theorem dX4_order_1 : decode cX4_order 1 = .ok (.getfield 27, 3) := by decide +kernel
theorem dX4_order_4 : decode cX4_order 4 = .ok (.aload_n 0, 1) := by decide +kernel
theorem dX4_order_5 : decode cX4_order 5 = .ok (.getfield 14, 3) := by decide +kernel
theorem dX4_order_8 : decode cX4_order 8 = .ok (.aload_n 1, 1) := by decide +kernel
theorem dX4_order_9 : decode cX4_order 9 = .ok (.getfield 20, 3) := by decide +kernel
theorem dX4_order_12 : decode cX4_order 12 = .ok (.invokevirtual 92, 3) := by decide +kernel
theorem dX4_order_15 : decode cX4_order 15 = .ok (.aload_n 0, 1) := by decide +kernel
theorem dX4_order_16 : decode cX4_order 16 = .ok (.getfield 30, 3) := by decide +kernel
theorem dX4_order_19 : decode cX4_order 19 = .ok (.aload_n 1, 1) := by decide +kernel
theorem dX4_order_20 : decode cX4_order 20 = .ok (.getfield 14, 3) := by decide +kernel
theorem dX4_order_23 : decode cX4_order 23 = .ok (.aload_n 0, 1) := by decide +kernel
theorem dX4_order_24 : decode cX4_order 24 = .ok (.getfield 20, 3) := by decide +kernel
theorem dX4_order_27 : decode cX4_order 27 = .ok (.invokevirtual 92, 3) := by decide +kernel
theorem dX4_order_30 : decode cX4_order 30 = .ok (.aload_n 0, 1) := by decide +kernel
theorem dX4_order_31 : decode cX4_order 31 = .ok (.getfield 27, 3) := by decide +kernel
theorem dX4_order_34 : decode cX4_order 34 = .ok (.aload_n 0, 1) := by decide +kernel
theorem dX4_order_35 : decode cX4_order 35 = .ok (.getfield 30, 3) := by decide +kernel
theorem dX4_order_38 : decode cX4_order 38 = .ok (.invokevirtual 95, 3) := by decide +kernel
theorem dX4_order_41 : decode cX4_order 41 = .ok (.ireturn, 1) := by decide +kernel
set_option maxRecDepth 20000 in
theorem ggX4_write_X4_writeSize : GoodIn wsX4_write wsX4_writeSize := goodIn_s _ [(8, 32), (44, 9)] rfl (by decide +kernel)
set_option maxRecDepth 20000 in
theorem gX4_write_X4_writeSize : GoodIn wsX4_write (wsV RX4 98 RX4 yX4_writeSize wsX4_writeSize) := goodIn_app (goodIn_r _ [4, 5, 6, 7] rfl (by decide +kernel)) ggX4_write_X4_writeSize
set_option maxRecDepth 20000 in
theorem ggX4_write_X0_isOne : GoodIn wsX4_write wsX0_isOne := goodIn_s _ [(43, 1), (16, 2), (26, 1), (50, 3)] rfl (by decide +kernel)
set_option maxRecDepth 20000 in
theorem gX4_write_X0_isOne : GoodIn wsX4_write (wsV RX4 102 RX0 yX0_isOne wsX0_isOne) := goodIn_app (goodIn_r _ [40, 41, 42, 14] rfl (by decide +kernel)) ggX4_write_X0_isOne
theorem dX4_write_0 : decode cX4_write 0 = .ok (.iconst 0, 1) := by decide +kernel
theorem dX4_write_1 : decode cX4_write 1 = .ok (.istore_n 2, 1) := by decide +kernel
theorem dX4_write_2 : decode cX4_write 2 = .ok (.aload_n 0, 1) := by decide +kernel
theorem dX4_write_3 : decode cX4_write 3 = .ok (.getfield 14, 3) := by decide +kernel
theorem dX4_write_6 : decode cX4_write 6 = .ok (.getfield 80, 3) := by decide +kernel
theorem dX4_write_9 : decode cX4_write 9 = .ok (.ifCond .eq 10, 3) := by decide +kernel
theorem dX4_write_12 : decode cX4_write 12 = .ok (.aload_n 1, 1) := by decide +kernel
theorem dX4_write_13 : decode cX4_write 13 = .ok (.iconst 0, 1) := by decide +kernel
theorem dX4_write_14 : decode cX4_write 14 = .ok (.bipush 45, 2) := by decide +kernel
theorem dX4_write_16 : decode cX4_write 16 = .ok (.castore, 1) := by decide +kernel
theorem dX4_write_17 : decode cX4_write 17 = .ok (.iconst 1, 1) := by decide +kernel
theorem dX4_write_18 : decode cX4_write 18 = .ok (.istore_n 2, 1) := by decide +kernel
theorem dX4_write_19 : decode cX4_write 19 = .ok (.aload_n 0, 1) := by decide +kernel
theorem dX4_write_20 : decode cX4_write 20 = .ok (.aload_n 0, 1) := by decide +kernel
theorem dX4_write_21 : decode cX4_write 21 = .ok (.getfield 14, 3) := by decide +kernel
theorem dX4_write_24 : decode cX4_write 24 = .ok (.aload_n 1, 1) := by decide +kernel
theorem dX4_write_25 : decode cX4_write 25 = .ok (.iload_n 2, 1) := by decide +kernel
theorem dX4_write_26 : decode cX4_write 26 = .ok (.invokevirtual 98, 3) := by decide +kernel
theorem dX4_write_29 : decode cX4_write 29 = .ok (.istore_n 2, 1) := by decide +kernel
theorem dX4_write_30 : decode cX4_write 30 = .ok (.aload_n 0, 1) := by decide +kernel
theorem dX4_write_31 : decode cX4_write 31 = .ok (.getfield 20, 3) := by decide +kernel
theorem dX4_write_34 : decode cX4_write 34 = .ok (.invokevirtual 102, 3) := by decide +kernel
theorem dX4_write_37 : decode cX4_write 37 = .ok (.ifCond .ne 27, 3) := by decide +kernel
theorem dX4_write_40 : decode cX4_write 40 = .ok (.iload_n 2, 1) := by decide +kernel
theorem dX4_write_41 : decode cX4_write 41 = .ok (.aload_n 1, 1) := by decide +kernel
theorem dX4_write_42 : decode cX4_write 42 = .ok (.arraylength, 1) := by decide +kernel
theorem dX4_write_43 : decode cX4_write 43 = .ok (.if_icmp .ge 21, 3) := by decide +kernel
theorem dX4_write_46 : decode cX4_write 46 = .ok (.aload_n 1, 1) := by decide +kernel
theorem dX4_write_47 : decode cX4_write 47 = .ok (.iload_n 2, 1) := by decide +kernel
theorem dX4_write_48 : decode cX4_write 48 = .ok (.bipush 47, 2) := by decide +kernel
theorem dX4_write_50 : decode cX4_write 50 = .ok (.castore, 1) := by decide +kernel
theorem dX4_write_51 : decode cX4_write 51 = .ok (.aload_n 0, 1) := by decide +kernel
theorem dX4_write_52 : decode cX4_write 52 = .ok (.aload_n 0, 1) := by decide +kernel
theorem dX4_write_53 : decode cX4_write 53 = .ok (.getfield 20, 3) := by decide +kernel
theorem dX4_write_56 : decode cX4_write 56 = .ok (.aload_n 1, 1) := by decide +kernel
theorem dX4_write_57 : decode cX4_write 57 = .ok (.iload_n 2, 1) := by decide +kernel
theorem dX4_write_58 : decode cX4_write 58 = .ok (.iconst 1, 1) := by decide +kernel
theorem dX4_write_59 : decode cX4_write 59 = .ok (.iadd, 1) := by decide +kernel
theorem dX4_write_60 : decode cX4_write 60 = .ok (.invokevirtual 98, 3) := by decide +kernel
theorem dX4_write_63 : decode cX4_write 63 = .ok (.istore_n 2, 1) := by decide +kernel
theorem dX4_write_64 : decode cX4_write 64 = .ok (.iload_n 2, 1) := by decide +kernel
theorem dX4_write_65 : decode cX4_write 65 = .ok (.ireturn, 1) := by decide +kernel
set_option maxRecDepth 20000 in
theorem ggX4_writeSize_X0_copy : GoodIn wsX4_writeSize wsX0_copy := goodIn_s _ [(7, 12), (38, 3)] rfl (by decide +kernel)
set_option maxRecDepth 20000 in
theorem gX4_writeSize_X0_copy : GoodIn wsX4_writeSize (wsV RX4 40 RX0 yX0_copy wsX0_copy) := goodIn_app (goodIn_r _ [3, 4, 5, 6] rfl (by decide +kernel)) ggX4_writeSize_X0_copy
set_option maxRecDepth 20000 in
theorem ggX4_writeSize_X0_divideBySmall : GoodIn wsX4_writeSize wsX0_divideBySmall := goodIn_s _ [(22, 1), (8, 2), (23, 3), (6, 1), (26, 6), (18, 1), (38, 3)] rfl (by decide +kernel)
set_option maxRecDepth 20000 in
theorem gX4_writeSize_X0_divideBySmall : GoodIn wsX4_writeSize (wsV RX4 106 RX0 yX0_divideBySmall wsX0_divideBySmall) := goodIn_app (goodIn_r _ [19, 20, 21, 6] rfl (by decide +kernel)) ggX4_writeSize_X0_divideBySmall
theorem dX4_writeSize_0 : decode cX4_writeSize 0 = .ok (.aload_n 0, 1) := by decide +kernel
theorem dX4_writeSize_1 : decode cX4_writeSize 1 = .ok (.getfield 27, 3) := by decide +kernel
theorem dX4_writeSize_4 : decode cX4_writeSize 4 = .ok (.aload_n 1, 1) := by decide +kernel
theorem dX4_writeSize_5 : decode cX4_writeSize 5 = .ok (.invokevirtual 40, 3) := by decide +kernel
theorem dX4_writeSize_8 : decode cX4_writeSize 8 = .ok (.iload_n 3, 1) := by decide +kernel
theorem dX4_writeSize_9 : decode cX4_writeSize 9 = .ok (.istore 4, 2) := by decide +kernel
theorem dX4_writeSize_11 : decode cX4_writeSize 11 = .ok (.iload_n 3, 1) := by decide +kernel
theorem dX4_writeSize_12 : decode cX4_writeSize 12 = .ok (.istore 5, 2) := by decide +kernel
theorem dX4_writeSize_14 : decode cX4_writeSize 14 = .ok (.iload 5, 2) := by decide +kernel
theorem dX4_writeSize_16 : decode cX4_writeSize 16 = .ok (.aload_n 2, 1) := by decide +kernel
theorem dX4_writeSize_17 : decode cX4_writeSize 17 = .ok (.arraylength, 1) := by decide +kernel
theorem dX4_writeSize_18 : decode cX4_writeSize 18 = .ok (.if_icmp .ge 48, 3) := by decide +kernel
theorem dX4_writeSize_21 : decode cX4_writeSize 21 = .ok (.iload 5, 2) := by decide +kernel
theorem dX4_writeSize_23 : decode cX4_writeSize 23 = .ok (.iload_n 3, 1) := by decide +kernel
theorem dX4_writeSize_24 : decode cX4_writeSize 24 = .ok (.if_icmp .eq 13, 3) := by decide +kernel
theorem dX4_writeSize_27 : decode cX4_writeSize 27 = .ok (.aload_n 0, 1) := by decide +kernel
theorem dX4_writeSize_28 : decode cX4_writeSize 28 = .ok (.getfield 27, 3) := by decide +kernel
theorem dX4_writeSize_31 : decode cX4_writeSize 31 = .ok (.getfield 48, 3) := by decide +kernel
theorem dX4_writeSize_34 : decode cX4_writeSize 34 = .ok (.ifCond .le 32, 3) := by decide +kernel
theorem dX4_writeSize_37 : decode cX4_writeSize 37 = .ok (.aload_n 2, 1) := by decide +kernel
theorem dX4_writeSize_38 : decode cX4_writeSize 38 = .ok (.iload 5, 2) := by decide +kernel
theorem dX4_writeSize_40 : decode cX4_writeSize 40 = .ok (.bipush 48, 2) := by decide +kernel
theorem dX4_writeSize_42 : decode cX4_writeSize 42 = .ok (.aload_n 0, 1) := by decide +kernel
theorem dX4_writeSize_43 : decode cX4_writeSize 43 = .ok (.getfield 27, 3) := by decide +kernel
theorem dX4_writeSize_46 : decode cX4_writeSize 46 = .ok (.bipush 10, 2) := by decide +kernel
theorem dX4_writeSize_48 : decode cX4_writeSize 48 = .ok (.invokevirtual 106, 3) := by decide +kernel
theorem dX4_writeSize_51 : decode cX4_writeSize 51 = .ok (.iadd, 1) := by decide +kernel
theorem dX4_writeSize_52 : decode cX4_writeSize 52 = .ok (.i2c, 1) := by decide +kernel
theorem dX4_writeSize_53 : decode cX4_writeSize 53 = .ok (.castore, 1) := by decide +kernel
theorem dX4_writeSize_54 : decode cX4_writeSize 54 = .ok (.iload 5, 2) := by decide +kernel
theorem dX4_writeSize_56 : decode cX4_writeSize 56 = .ok (.iconst 1, 1) := by decide +kernel
theorem dX4_writeSize_57 : decode cX4_writeSize 57 = .ok (.iadd, 1) := by decide +kernel
theorem dX4_writeSize_58 : decode cX4_writeSize 58 = .ok (.istore 4, 2) := by decide +kernel
theorem dX4_writeSize_60 : decode cX4_writeSize 60 = .ok (.iinc 5 1, 3) := by decide +kernel
theorem dX4_writeSize_63 : decode cX4_writeSize 63 = .ok (.goto (-49), 3) := by decide +kernel
theorem dX4_writeSize_66 : decode cX4_writeSize 66 = .ok (.iload_n 3, 1) := by decide +kernel
theorem dX4_writeSize_67 : decode cX4_writeSize 67 = .ok (.istore 5, 2) := by decide +kernel
theorem dX4_writeSize_69 : decode cX4_writeSize 69 = .ok (.iload 4, 2) := by decide +kernel
theorem dX4_writeSize_71 : decode cX4_writeSize 71 = .ok (.iconst 1, 1) := by decide +kernel
theorem dX4_writeSize_72 : decode cX4_writeSize 72 = .ok (.isub, 1) := by decide +kernel
theorem dX4_writeSize_73 : decode cX4_writeSize 73 = .ok (.istore 6, 2) := by decide +kernel
theorem dX4_writeSize_75 : decode cX4_writeSize 75 = .ok (.iload 5, 2) := by decide +kernel
theorem dX4_writeSize_77 : decode cX4_writeSize 77 = .ok (.iload 6, 2) := by decide +kernel
theorem dX4_writeSize_79 : decode cX4_writeSize 79 = .ok (.if_icmp .ge 32, 3) := by decide +kernel
theorem dX4_writeSize_82 : decode cX4_writeSize 82 = .ok (.aload_n 2, 1) := by decide +kernel
theorem dX4_writeSize_83 : decode cX4_writeSize 83 = .ok (.iload 5, 2) := by decide +kernel
theorem dX4_writeSize_85 : decode cX4_writeSize 85 = .ok (.caload, 1) := by decide +kernel
theorem dX4_writeSize_86 : decode cX4_writeSize 86 = .ok (.istore 7, 2) := by decide +kernel
theorem dX4_writeSize_88 : decode cX4_writeSize 88 = .ok (.aload_n 2, 1) := by decide +kernel
theorem dX4_writeSize_89 : decode cX4_writeSize 89 = .ok (.iload 5, 2) := by decide +kernel
theorem dX4_writeSize_91 : decode cX4_writeSize 91 = .ok (.aload_n 2, 1) := by decide +kernel
theorem dX4_writeSize_92 : decode cX4_writeSize 92 = .ok (.iload 6, 2) := by decide +kernel
theorem dX4_writeSize_94 : decode cX4_writeSize 94 = .ok (.caload, 1) := by decide +kernel
theorem dX4_writeSize_95 : decode cX4_writeSize 95 = .ok (.castore, 1) := by decide +kernel
theorem dX4_writeSize_96 : decode cX4_writeSize 96 = .ok (.aload_n 2, 1) := by decide +kernel
theorem dX4_writeSize_97 : decode cX4_writeSize 97 = .ok (.iload 6, 2) := by decide +kernel
theorem dX4_writeSize_99 : decode cX4_writeSize 99 = .ok (.iload 7, 2) := by decide +kernel
theorem dX4_writeSize_101 : decode cX4_writeSize 101 = .ok (.castore, 1) := by decide +kernel
theorem dX4_writeSize_102 : decode cX4_writeSize 102 = .ok (.iinc 5 1, 3) := by decide +kernel
theorem dX4_writeSize_105 : decode cX4_writeSize 105 = .ok (.iinc 6 (-1), 3) := by decide +kernel
theorem dX4_writeSize_108 : decode cX4_writeSize 108 = .ok (.goto (-33), 3) := by decide +kernel
theorem dX4_writeSize_111 : decode cX4_writeSize 111 = .ok (.iload 4, 2) := by decide +kernel
theorem dX4_writeSize_113 : decode cX4_writeSize 113 = .ok (.ireturn, 1) := by decide +kernel
set_option maxRecDepth 20000 in
theorem ggX5_init_X10_init : GoodIn wsX5_init wsX10_init := goodIn_s _ [(27, 2), (2, 2), (29, 7), (72, 6)] rfl (by decide +kernel)
