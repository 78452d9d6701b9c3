set_option maxRecDepth 20000 in
theorem ggX0_divideBySmall_X0_trim : GoodIn wsX0_divideBySmall wsX0_trim := goodIn_s _ [(12, 1), (1, 2), (13, 4)] rfl (by decide +kernel)
set_option maxRecDepth 20000 in
theorem gX0_divideBySmall_X0_trim : GoodIn wsX0_divideBySmall (wsV RX0 58 RX0 yX0_trim wsX0_trim) := goodIn_app (goodIn_r _ [9, 10, 11, 6] rfl (by decide +kernel)) ggX0_divideBySmall_X0_trim
theorem dX0_divideBySmall_0 : decode cX0_divideBySmall 0 = .ok (.lconst 0, 1) := by decide +kernel
theorem dX0_divideBySmall_1 : decode cX0_divideBySmall 1 = .ok (.lstore_n 2, 1) := by decide +kernel
theorem dX0_divideBySmall_2 : decode cX0_divideBySmall 2 = .ok (.aload_n 0, 1) := by decide +kernel
theorem dX0_divideBySmall_3 : decode cX0_divideBySmall 3 = .ok (.getfield 7, 3) := by decide +kernel
theorem dX0_divideBySmall_6 : decode cX0_divideBySmall 6 = .ok (.iconst 1, 1) := by decide +kernel
theorem dX0_divideBySmall_7 : decode cX0_divideBySmall 7 = .ok (.isub, 1) := by decide +kernel
theorem dX0_divideBySmall_8 : decode cX0_divideBySmall 8 = .ok (.istore 4, 2) := by decide +kernel
theorem dX0_divideBySmall_10 : decode cX0_divideBySmall 10 = .ok (.iload 4, 2) := by decide +kernel
theorem dX0_divideBySmall_12 : decode cX0_divideBySmall 12 = .ok (.ifCond .lt 45, 3) := by decide +kernel
theorem dX0_divideBySmall_15 : decode cX0_divideBySmall 15 = .ok (.iload_n 1, 1) := by decide +kernel
theorem dX0_divideBySmall_16 : decode cX0_divideBySmall 16 = .ok (.ifCond .le 41, 3) := by decide +kernel
theorem dX0_divideBySmall_19 : decode cX0_divideBySmall 19 = .ok (.lload_n 2, 1) := by decide +kernel
theorem dX0_divideBySmall_20 : decode cX0_divideBySmall 20 = .ok (.bipush 32, 2) := by decide +kernel
theorem dX0_divideBySmall_22 : decode cX0_divideBySmall 22 = .ok (.lshl, 1) := by decide +kernel
theorem dX0_divideBySmall_23 : decode cX0_divideBySmall 23 = .ok (.aload_n 0, 1) := by decide +kernel
theorem dX0_divideBySmall_24 : decode cX0_divideBySmall 24 = .ok (.iload 4, 2) := by decide +kernel
theorem dX0_divideBySmall_26 : decode cX0_divideBySmall 26 = .ok (.invokevirtual 35, 3) := by decide +kernel
theorem dX0_divideBySmall_29 : decode cX0_divideBySmall 29 = .ok (.lor, 1) := by decide +kernel
theorem dX0_divideBySmall_30 : decode cX0_divideBySmall 30 = .ok (.lstore 5, 2) := by decide +kernel
theorem dX0_divideBySmall_32 : decode cX0_divideBySmall 32 = .ok (.aload_n 0, 1) := by decide +kernel
theorem dX0_divideBySmall_33 : decode cX0_divideBySmall 33 = .ok (.getfield 17, 3) := by decide +kernel
theorem dX0_divideBySmall_36 : decode cX0_divideBySmall 36 = .ok (.iload 4, 2) := by decide +kernel
theorem dX0_divideBySmall_38 : decode cX0_divideBySmall 38 = .ok (.lload 5, 2) := by decide +kernel
theorem dX0_divideBySmall_40 : decode cX0_divideBySmall 40 = .ok (.iload_n 1, 1) := by decide +kernel
theorem dX0_divideBySmall_41 : decode cX0_divideBySmall 41 = .ok (.i2l, 1) := by decide +kernel
theorem dX0_divideBySmall_42 : decode cX0_divideBySmall 42 = .ok (.ldiv, 1) := by decide +kernel
theorem dX0_divideBySmall_43 : decode cX0_divideBySmall 43 = .ok (.l2i, 1) := by decide +kernel
theorem dX0_divideBySmall_44 : decode cX0_divideBySmall 44 = .ok (.iastore, 1) := by decide +kernel
theorem dX0_divideBySmall_45 : decode cX0_divideBySmall 45 = .ok (.lload 5, 2) := by decide +kernel
theorem dX0_divideBySmall_47 : decode cX0_divideBySmall 47 = .ok (.iload_n 1, 1) := by decide +kernel
theorem dX0_divideBySmall_48 : decode cX0_divideBySmall 48 = .ok (.i2l, 1) := by decide +kernel
theorem dX0_divideBySmall_49 : decode cX0_divideBySmall 49 = .ok (.lrem, 1) := by decide +kernel
theorem dX0_divideBySmall_50 : decode cX0_divideBySmall 50 = .ok (.lstore_n 2, 1) := by decide +kernel
theorem dX0_divideBySmall_51 : decode cX0_divideBySmall 51 = .ok (.iinc 4 (-1), 3) := by decide +kernel
theorem dX0_divideBySmall_54 : decode cX0_divideBySmall 54 = .ok (.goto (-44), 3) := by decide +kernel
theorem dX0_divideBySmall_57 : decode cX0_divideBySmall 57 = .ok (.aload_n 0, 1) := by decide +kernel
theorem dX0_divideBySmall_58 : decode cX0_divideBySmall 58 = .ok (.aload_n 0, 1) := by decide +kernel
theorem dX0_divideBySmall_59 : decode cX0_divideBySmall 59 = .ok (.getfield 7, 3) := by decide +kernel
theorem dX0_divideBySmall_62 : decode cX0_divideBySmall 62 = .ok (.invokevirtual 58, 3) := by decide +kernel
theorem dX0_divideBySmall_65 : decode cX0_divideBySmall 65 = .ok (.lload_n 2, 1) := by decide +kernel
theorem dX0_divideBySmall_66 : decode cX0_divideBySmall 66 = .ok (.l2i, 1) := by decide +kernel
theorem dX0_divideBySmall_67 : decode cX0_divideBySmall 67 = .ok (.ireturn, 1) := by decide +kernel
theorem dX0_lowZeros_0 : decode cX0_lowZeros 0 = .ok (.iconst 0, 1) := by decide +kernel
theorem dX0_lowZeros_1 : decode cX0_lowZeros 1 = .ok (.istore_n 1, 1) := by decide +kernel
theorem dX0_lowZeros_2 : decode cX0_lowZeros 2 = .ok (.iload_n 1, 1) := by decide +kernel
theorem dX0_lowZeros_3 : decode cX0_lowZeros 3 = .ok (.aload_n 0, 1) := by decide +kernel
theorem dX0_lowZeros_4 : decode cX0_lowZeros 4 = .ok (.getfield 7, 3) := by decide +kernel
theorem dX0_lowZeros_7 : decode cX0_lowZeros 7 = .ok (.if_icmp .ge 18, 3) := by decide +kernel
theorem dX0_lowZeros_10 : decode cX0_lowZeros 10 = .ok (.aload_n 0, 1) := by decide +kernel
theorem dX0_lowZeros_11 : decode cX0_lowZeros 11 = .ok (.getfield 17, 3) := by decide +kernel
theorem dX0_lowZeros_14 : decode cX0_lowZeros 14 = .ok (.iload_n 1, 1) := by decide +kernel
theorem dX0_lowZeros_15 : decode cX0_lowZeros 15 = .ok (.iaload, 1) := by decide +kernel
theorem dX0_lowZeros_16 : decode cX0_lowZeros 16 = .ok (.ifCond .ne 9, 3) := by decide +kernel
theorem dX0_lowZeros_19 : decode cX0_lowZeros 19 = .ok (.iinc 1 1, 3) := by decide +kernel
theorem dX0_lowZeros_22 : decode cX0_lowZeros 22 = .ok (.goto (-20), 3) := by decide +kernel
theorem dX0_lowZeros_25 : decode cX0_lowZeros 25 = .ok (.iload_n 1, 1) := by decide +kernel
theorem dX0_lowZeros_26 : decode cX0_lowZeros 26 = .ok (.aload_n 0, 1) := by decide +kernel
theorem dX0_lowZeros_27 : decode cX0_lowZeros 27 = .ok (.getfield 7, 3) := by decide +kernel
theorem dX0_lowZeros_30 : decode cX0_lowZeros 30 = .ok (.if_icmp .ge 20, 3) := by decide +kernel
theorem dX0_lowZeros_33 : decode cX0_lowZeros 33 = .ok (.bipush 32, 2) := by decide +kernel
theorem dX0_lowZeros_35 : decode cX0_lowZeros 35 = .ok (.iload_n 1, 1) := by decide +kernel
theorem dX0_lowZeros_36 : decode cX0_lowZeros 36 = .ok (.imul, 1) := by decide +kernel
theorem dX0_lowZeros_37 : decode cX0_lowZeros 37 = .ok (.aload_n 0, 1) := by decide +kernel
theorem dX0_lowZeros_38 : decode cX0_lowZeros 38 = .ok (.getfield 17, 3) := by decide +kernel
theorem dX0_lowZeros_41 : decode cX0_lowZeros 41 = .ok (.iload_n 1, 1) := by decide +kernel
theorem dX0_lowZeros_42 : decode cX0_lowZeros 42 = .ok (.iaload, 1) := by decide +kernel
theorem dX0_lowZeros_43 : decode cX0_lowZeros 43 = .ok (.invokestatic 66, 3) := by decide +kernel
theorem dX0_lowZeros_46 : decode cX0_lowZeros 46 = .ok (.iadd, 1) := by decide +kernel
theorem dX0_lowZeros_47 : decode cX0_lowZeros 47 = .ok (.goto 4, 3) := by decide +kernel
theorem dX0_lowZeros_50 : decode cX0_lowZeros 50 = .ok (.iconst 0, 1) := by decide +kernel
theorem dX0_lowZeros_51 : decode cX0_lowZeros 51 = .ok (.ireturn, 1) := by decide +kernel
set_option maxRecDepth 20000 in
theorem ggX0_shiftDown_X0_digit : GoodIn wsX0_shiftDown wsX0_digit := goodIn_r _ [11, 1, 6, 12, 18, 19, 20] rfl (by decide +kernel)
set_option maxRecDepth 20000 in
theorem gX0_shiftDown_X0_digit : GoodIn wsX0_shiftDown (wsV RX0 35 RX0 yX0_digit wsX0_digit) := goodIn_app (goodIn_r _ [7, 8, 9, 10] rfl (by decide +kernel)) ggX0_shiftDown_X0_digit
set_option maxRecDepth 20000 in
theorem ggX0_shiftDown_X0_trim : GoodIn wsX0_shiftDown wsX0_trim := goodIn_s _ [(16, 1), (1, 1), (6, 1), (17, 4)] rfl (by decide +kernel)
set_option maxRecDepth 20000 in
theorem gX0_shiftDown_X0_trim : GoodIn wsX0_shiftDown (wsV RX0 58 RX0 yX0_trim wsX0_trim) := goodIn_app (goodIn_r _ [13, 14, 15, 10] rfl (by decide +kernel)) ggX0_shiftDown_X0_trim
theorem dX0_shiftDown_0 : decode cX0_shiftDown 0 = .ok (.iload_n 1, 1) := by decide +kernel
theorem dX0_shiftDown_1 : decode cX0_shiftDown 1 = .ok (.iconst 5, 1) := by decide +kernel
theorem dX0_shiftDown_2 : decode cX0_shiftDown 2 = .ok (.ishr, 1) := by decide +kernel
theorem dX0_shiftDown_3 : decode cX0_shiftDown 3 = .ok (.istore_n 2, 1) := by decide +kernel
theorem dX0_shiftDown_4 : decode cX0_shiftDown 4 = .ok (.iload_n 1, 1) := by decide +kernel
theorem dX0_shiftDown_5 : decode cX0_shiftDown 5 = .ok (.bipush 31, 2) := by decide +kernel
theorem dX0_shiftDown_7 : decode cX0_shiftDown 7 = .ok (.iand, 1) := by decide +kernel
theorem dX0_shiftDown_8 : decode cX0_shiftDown 8 = .ok (.istore_n 3, 1) := by decide +kernel
theorem dX0_shiftDown_9 : decode cX0_shiftDown 9 = .ok (.iload_n 1, 1) := by decide +kernel
theorem dX0_shiftDown_10 : decode cX0_shiftDown 10 = .ok (.ifCond .gt 4, 3) := by decide +kernel
theorem dX0_shiftDown_13 : decode cX0_shiftDown 13 = .ok (.return_, 1) := by decide +kernel
theorem dX0_shiftDown_14 : decode cX0_shiftDown 14 = .ok (.aload_n 0, 1) := by decide +kernel
theorem dX0_shiftDown_15 : decode cX0_shiftDown 15 = .ok (.getfield 7, 3) := by decide +kernel
theorem dX0_shiftDown_18 : decode cX0_shiftDown 18 = .ok (.iload_n 2, 1) := by decide +kernel
theorem dX0_shiftDown_19 : decode cX0_shiftDown 19 = .ok (.isub, 1) := by decide +kernel
theorem dX0_shiftDown_20 : decode cX0_shiftDown 20 = .ok (.iconst 0, 1) := by decide +kernel
theorem dX0_shiftDown_21 : decode cX0_shiftDown 21 = .ok (.invokestatic 72, 3) := by decide +kernel
theorem dX0_shiftDown_24 : decode cX0_shiftDown 24 = .ok (.istore 4, 2) := by decide +kernel
theorem dX0_shiftDown_26 : decode cX0_shiftDown 26 = .ok (.iconst 0, 1) := by decide +kernel
theorem dX0_shiftDown_27 : decode cX0_shiftDown 27 = .ok (.istore 5, 2) := by decide +kernel
theorem dX0_shiftDown_29 : decode cX0_shiftDown 29 = .ok (.iload 5, 2) := by decide +kernel
theorem dX0_shiftDown_31 : decode cX0_shiftDown 31 = .ok (.iload 4, 2) := by decide +kernel
theorem dX0_shiftDown_33 : decode cX0_shiftDown 33 = .ok (.if_icmp .ge 45, 3) := by decide +kernel
theorem dX0_shiftDown_36 : decode cX0_shiftDown 36 = .ok (.aload_n 0, 1) := by decide +kernel
theorem dX0_shiftDown_37 : decode cX0_shiftDown 37 = .ok (.iload 5, 2) := by decide +kernel
theorem dX0_shiftDown_39 : decode cX0_shiftDown 39 = .ok (.iload_n 2, 1) := by decide +kernel
theorem dX0_shiftDown_40 : decode cX0_shiftDown 40 = .ok (.iadd, 1) := by decide +kernel
theorem dX0_shiftDown_41 : decode cX0_shiftDown 41 = .ok (.invokevirtual 35, 3) := by decide +kernel
theorem dX0_shiftDown_44 : decode cX0_shiftDown 44 = .ok (.aload_n 0, 1) := by decide +kernel
theorem dX0_shiftDown_45 : decode cX0_shiftDown 45 = .ok (.iload 5, 2) := by decide +kernel
theorem dX0_shiftDown_47 : decode cX0_shiftDown 47 = .ok (.iload_n 2, 1) := by decide +kernel
theorem dX0_shiftDown_48 : decode cX0_shiftDown 48 = .ok (.iadd, 1) := by decide +kernel
theorem dX0_shiftDown_49 : decode cX0_shiftDown 49 = .ok (.iconst 1, 1) := by decide +kernel
theorem dX0_shiftDown_50 : decode cX0_shiftDown 50 = .ok (.iadd, 1) := by decide +kernel
theorem dX0_shiftDown_51 : decode cX0_shiftDown 51 = .ok (.invokevirtual 35, 3) := by decide +kernel
theorem dX0_shiftDown_54 : decode cX0_shiftDown 54 = .ok (.bipush 32, 2) := by decide +kernel
theorem dX0_shiftDown_56 : decode cX0_shiftDown 56 = .ok (.lshl, 1) := by decide +kernel
theorem dX0_shiftDown_57 : decode cX0_shiftDown 57 = .ok (.lor, 1) := by decide +kernel
theorem dX0_shiftDown_58 : decode cX0_shiftDown 58 = .ok (.lstore 6, 2) := by decide +kernel
theorem dX0_shiftDown_60 : decode cX0_shiftDown 60 = .ok (.aload_n 0, 1) := by decide +kernel
theorem dX0_shiftDown_61 : decode cX0_shiftDown 61 = .ok (.getfield 17, 3) := by decide +kernel
theorem dX0_shiftDown_64 : decode cX0_shiftDown 64 = .ok (.iload 5, 2) := by decide +kernel
theorem dX0_shiftDown_66 : decode cX0_shiftDown 66 = .ok (.lload 6, 2) := by decide +kernel
theorem dX0_shiftDown_68 : decode cX0_shiftDown 68 = .ok (.iload_n 3, 1) := by decide +kernel
theorem dX0_shiftDown_69 : decode cX0_shiftDown 69 = .ok (.lushr, 1) := by decide +kernel
theorem dX0_shiftDown_70 : decode cX0_shiftDown 70 = .ok (.l2i, 1) := by decide +kernel
theorem dX0_shiftDown_71 : decode cX0_shiftDown 71 = .ok (.iastore, 1) := by decide +kernel
theorem dX0_shiftDown_72 : decode cX0_shiftDown 72 = .ok (.iinc 5 1, 3) := by decide +kernel
theorem dX0_shiftDown_75 : decode cX0_shiftDown 75 = .ok (.goto (-46), 3) := by decide +kernel
theorem dX0_shiftDown_78 : decode cX0_shiftDown 78 = .ok (.aload_n 0, 1) := by decide +kernel
theorem dX0_shiftDown_79 : decode cX0_shiftDown 79 = .ok (.iload 4, 2) := by decide +kernel
theorem dX0_shiftDown_81 : decode cX0_shiftDown 81 = .ok (.invokevirtual 58, 3) := by decide +kernel
theorem dX0_shiftDown_84 : decode cX0_shiftDown 84 = .ok (.return_, 1) := by decide +kernel
set_option maxRecDepth 20000 in
theorem ggX1_init_X0_init : GoodIn wsX1_init wsX0_init := goodIn_s _ [(12, 2), (2, 2), (14, 7)] rfl (by decide +kernel)
set_option maxRecDepth 20000 in
theorem gX1_init_X0_init : GoodIn wsX1_init (wsX0_init) := ggX1_init_X0_init
theorem dX1_init_0 : decode cX1_init 0 = .ok (.aload_n 0, 1) := by decide +kernel
theorem dX1_init_1 : decode cX1_init 1 = .ok (.invokespecial 3, 3) := by decide +kernel
theorem dX1_init_4 : decode cX1_init 4 = .ok (.aload_n 0, 1) := by decide +kernel
theorem dX1_init_5 : decode cX1_init 5 = .ok (.new 9, 3) := by decide +kernel
theorem dX1_init_8 : decode cX1_init 8 = .ok (.dup, 1) := by decide +kernel
theorem dX1_init_9 : decode cX1_init 9 = .ok (.bipush 32, 2) := by decide +kernel
theorem dX1_init_11 : decode cX1_init 11 = .ok (.invokespecial 11, 3) := by decide +kernel
theorem dX1_init_14 : decode cX1_init 14 = .ok (.putfield 14, 3) := by decide +kernel
theorem dX1_init_17 : decode cX1_init 17 = .ok (.aload_n 0, 1) := by decide +kernel
theorem dX1_init_18 : decode cX1_init 18 = .ok (.iconst 0, 1) := by decide +kernel
theorem dX1_init_19 : decode cX1_init 19 = .ok (.putfield 20, 3) := by decide +kernel
theorem dX1_init_22 : decode cX1_init 22 = .ok (.aload_n 0, 1) := by decide +kernel
theorem dX1_init_23 : decode cX1_init 23 = .ok (.iconst 1, 1) := by decide +kernel
theorem dX1_init_24 : decode cX1_init 24 = .ok (.putfield 24, 3) := by decide +kernel
theorem dX1_init_27 : decode cX1_init 27 = .ok (.return_, 1) := by decide +kernel
set_option maxRecDepth 20000 in
theorem ggX1_prepare_X0_copy : GoodIn wsX1_prepare wsX0_copy := goodIn_s _ [(10, 12), (50, 3)] rfl (by decide +kernel)
set_option maxRecDepth 20000 in
theorem gX1_prepare_X0_copy : GoodIn wsX1_prepare (wsV RX1 27 RX0 yX0_copy wsX0_copy) := goodIn_app (goodIn_r _ [6, 7, 8, 9] rfl (by decide +kernel)) ggX1_prepare_X0_copy
set_option maxRecDepth 20000 in
theorem ggX1_prepare_X0_lowZeros : GoodIn wsX1_prepare wsX0_lowZeros := goodIn_s _ [(25, 1), (11, 2), (26, 5), (50, 3)] rfl (by decide +kernel)
set_option maxRecDepth 20000 in
theorem gX1_prepare_X0_lowZeros : GoodIn wsX1_prepare (wsV RX1 31 RX0 yX0_lowZeros wsX0_lowZeros) := goodIn_app (goodIn_r _ [22, 23, 24, 9] rfl (by decide +kernel)) ggX1_prepare_X0_lowZeros
set_option maxRecDepth 20000 in
theorem ggX1_prepare_X0_shiftDown : GoodIn wsX1_prepare wsX0_shiftDown := goodIn_s _ [(34, 1), (11, 1), (35, 2), (15, 1), (37, 1), (12, 1), (38, 3), (9, 1), (41, 6), (21, 1), (50, 3)] rfl (by decide +kernel)
set_option maxRecDepth 20000 in
theorem gX1_prepare_X0_shiftDown : GoodIn wsX1_prepare (wsV RX1 35 RX0 yX0_shiftDown wsX0_shiftDown) := goodIn_app (goodIn_r _ [31, 32, 33, 9] rfl (by decide +kernel)) ggX1_prepare_X0_shiftDown
theorem dX1_prepare_0 : decode cX1_prepare 0 = .ok (.aload_n 0, 1) := by decide +kernel
theorem dX1_prepare_1 : decode cX1_prepare 1 = .ok (.getfield 14, 3) := by decide +kernel
theorem dX1_prepare_4 : decode cX1_prepare 4 = .ok (.aload_n 1, 1) := by decide +kernel
theorem dX1_prepare_5 : decode cX1_prepare 5 = .ok (.invokevirtual 27, 3) := by decide +kernel
theorem dX1_prepare_8 : decode cX1_prepare 8 = .ok (.aload_n 0, 1) := by decide +kernel
theorem dX1_prepare_9 : decode cX1_prepare 9 = .ok (.aload_n 0, 1) := by decide +kernel
theorem dX1_prepare_10 : decode cX1_prepare 10 = .ok (.getfield 14, 3) := by decide +kernel
theorem dX1_prepare_13 : decode cX1_prepare 13 = .ok (.invokevirtual 31, 3) := by decide +kernel
theorem dX1_prepare_16 : decode cX1_prepare 16 = .ok (.putfield 20, 3) := by decide +kernel
theorem dX1_prepare_19 : decode cX1_prepare 19 = .ok (.aload_n 0, 1) := by decide +kernel
theorem dX1_prepare_20 : decode cX1_prepare 20 = .ok (.getfield 14, 3) := by decide +kernel
theorem dX1_prepare_23 : decode cX1_prepare 23 = .ok (.aload_n 0, 1) := by decide +kernel
theorem dX1_prepare_24 : decode cX1_prepare 24 = .ok (.getfield 20, 3) := by decide +kernel
theorem dX1_prepare_27 : decode cX1_prepare 27 = .ok (.invokevirtual 35, 3) := by decide +kernel
theorem dX1_prepare_30 : decode cX1_prepare 30 = .ok (.aload_n 0, 1) := by decide +kernel
theorem dX1_prepare_31 : decode cX1_prepare 31 = .ok (.getfield 14, 3) := by decide +kernel
theorem dX1_prepare_34 : decode cX1_prepare 34 = .ok (.getfield 38, 3) := by decide +kernel
theorem dX1_prepare_37 : decode cX1_prepare 37 = .ok (.ifCond .le 15, 3) := by decide +kernel
theorem dX1_prepare_40 : decode cX1_prepare 40 = .ok (.aload_n 0, 1) := by decide +kernel
theorem dX1_prepare_41 : decode cX1_prepare 41 = .ok (.getfield 14, 3) := by decide +kernel
theorem dX1_prepare_44 : decode cX1_prepare 44 = .ok (.getfield 41, 3) := by decide +kernel
theorem dX1_prepare_47 : decode cX1_prepare 47 = .ok (.iconst 0, 1) := by decide +kernel
theorem dX1_prepare_48 : decode cX1_prepare 48 = .ok (.iaload, 1) := by decide +kernel
theorem dX1_prepare_49 : decode cX1_prepare 49 = .ok (.goto 4, 3) := by decide +kernel
theorem dX1_prepare_52 : decode cX1_prepare 52 = .ok (.iconst 1, 1) := by decide +kernel
theorem dX1_prepare_53 : decode cX1_prepare 53 = .ok (.istore_n 2, 1) := by decide +kernel
theorem dX1_prepare_54 : decode cX1_prepare 54 = .ok (.aload_n 0, 1) := by decide +kernel
theorem dX1_prepare_55 : decode cX1_prepare 55 = .ok (.iload_n 2, 1) := by decide +kernel
theorem dX1_prepare_56 : decode cX1_prepare 56 = .ok (.putfield 24, 3) := by decide +kernel
theorem dX1_prepare_59 : decode cX1_prepare 59 = .ok (.iconst 0, 1) := by decide +kernel
theorem dX1_prepare_60 : decode cX1_prepare 60 = .ok (.istore_n 3, 1) := by decide +kernel
theorem dX1_prepare_61 : decode cX1_prepare 61 = .ok (.iload_n 3, 1) := by decide +kernel
theorem dX1_prepare_62 : decode cX1_prepare 62 = .ok (.iconst 4, 1) := by decide +kernel
theorem dX1_prepare_63 : decode cX1_prepare 63 = .ok (.if_icmp .ge 26, 3) := by decide +kernel
theorem dX1_prepare_66 : decode cX1_prepare 66 = .ok (.aload_n 0, 1) := by decide +kernel
theorem dX1_prepare_67 : decode cX1_prepare 67 = .ok (.dup, 1) := by decide +kernel
theorem dX1_prepare_68 : decode cX1_prepare 68 = .ok (.getfield 24, 3) := by decide +kernel
theorem dX1_prepare_71 : decode cX1_prepare 71 = .ok (.iconst 2, 1) := by decide +kernel
theorem dX1_prepare_72 : decode cX1_prepare 72 = .ok (.iload_n 2, 1) := by decide +kernel
theorem dX1_prepare_73 : decode cX1_prepare 73 = .ok (.aload_n 0, 1) := by decide +kernel
theorem dX1_prepare_74 : decode cX1_prepare 74 = .ok (.getfield 24, 3) := by decide +kernel
theorem dX1_prepare_77 : decode cX1_prepare 77 = .ok (.imul, 1) := by decide +kernel
theorem dX1_prepare_78 : decode cX1_prepare 78 = .ok (.isub, 1) := by decide +kernel
theorem dX1_prepare_79 : decode cX1_prepare 79 = .ok (.imul, 1) := by decide +kernel
theorem dX1_prepare_80 : decode cX1_prepare 80 = .ok (.putfield 24, 3) := by decide +kernel
theorem dX1_prepare_83 : decode cX1_prepare 83 = .ok (.iinc 3 1, 3) := by decide +kernel
theorem dX1_prepare_86 : decode cX1_prepare 86 = .ok (.goto (-25), 3) := by decide +kernel
theorem dX1_prepare_89 : decode cX1_prepare 89 = .ok (.return_, 1) := by decide +kernel
set_option maxRecDepth 20000 in
theorem ggX1_divide_X0_shiftDown : GoodIn wsX1_divide wsX0_shiftDown := goodIn_s _ [(15, 3), (5, 3), (18, 4), (14, 1), (22, 7), (45, 3)] rfl (by decide +kernel)
set_option maxRecDepth 20000 in
theorem gX1_divide_X0_shiftDown : GoodIn wsX1_divide (wsV RX1 35 RX0 yX0_shiftDown wsX0_shiftDown) := goodIn_app (goodIn_r _ [11, 12, 13, 14] rfl (by decide +kernel)) ggX1_divide_X0_shiftDown
set_option maxRecDepth 20000 in
theorem ggX1_divide_X0_isOne : GoodIn wsX1_divide wsX0_isOne := goodIn_r _ [32, 16, 18, 28, 45, 46, 47] rfl (by decide +kernel)
set_option maxRecDepth 20000 in
theorem gX1_divide_X0_isOne : GoodIn wsX1_divide (wsV RX1 45 RX0 yX0_isOne wsX0_isOne) := goodIn_app (goodIn_r _ [29, 30, 31, 14] rfl (by decide +kernel)) ggX1_divide_X0_isOne
set_option maxRecDepth 20000 in
theorem ggX1_divide_X1_takeMultiple : GoodIn wsX1_divide wsX1_takeMultiple := goodIn_s _ [(37, 1), (2, 2), (38, 2), (6, 1), (40, 1), (8, 1), (10, 1), (42, 6)] rfl (by decide +kernel)
set_option maxRecDepth 20000 in
theorem gX1_divide_X1_takeMultiple : GoodIn wsX1_divide (wsV RX1 57 RX1 yX1_takeMultiple wsX1_takeMultiple) := goodIn_app (goodIn_r _ [33, 34, 35, 36] rfl (by decide +kernel)) ggX1_divide_X1_takeMultiple
set_option maxRecDepth 20000 in
theorem ggX1_divide_X0_trim : GoodIn wsX1_divide wsX0_trim := goodIn_r _ [27, 16, 18, 28, 45, 46, 47] rfl (by decide +kernel)
set_option maxRecDepth 20000 in
theorem gX1_divide_X0_trim : GoodIn wsX1_divide (wsV RX1 61 RX0 yX0_trim wsX0_trim) := goodIn_app (goodIn_r _ [41, 25, 26, 14] rfl (by decide +kernel)) ggX1_divide_X0_trim
theorem dX1_divide_0 : decode cX1_divide 0 = .ok (.aload_n 1, 1) := by decide +kernel
theorem dX1_divide_1 : decode cX1_divide 1 = .ok (.aload_n 0, 1) := by decide +kernel
theorem dX1_divide_2 : decode cX1_divide 2 = .ok (.getfield 20, 3) := by decide +kernel
theorem dX1_divide_5 : decode cX1_divide 5 = .ok (.invokevirtual 35, 3) := by decide +kernel
theorem dX1_divide_8 : decode cX1_divide 8 = .ok (.aload_n 0, 1) := by decide +kernel
theorem dX1_divide_9 : decode cX1_divide 9 = .ok (.getfield 14, 3) := by decide +kernel
theorem dX1_divide_12 : decode cX1_divide 12 = .ok (.invokevirtual 45, 3) := by decide +kernel
theorem dX1_divide_15 : decode cX1_divide 15 = .ok (.ifCond .eq 4, 3) := by decide +kernel
theorem dX1_divide_18 : decode cX1_divide 18 = .ok (.return_, 1) := by decide +kernel
theorem dX1_divide_19 : decode cX1_divide 19 = .ok (.aload_n 1, 1) := by decide +kernel
theorem dX1_divide_20 : decode cX1_divide 20 = .ok (.getfield 38, 3) := by decide +kernel
theorem dX1_divide_23 : decode cX1_divide 23 = .ok (.aload_n 0, 1) := by decide +kernel
theorem dX1_divide_24 : decode cX1_divide 24 = .ok (.getfield 14, 3) := by decide +kernel
theorem dX1_divide_27 : decode cX1_divide 27 = .ok (.getfield 38, 3) := by decide +kernel
theorem dX1_divide_30 : decode cX1_divide 30 = .ok (.isub, 1) := by decide +kernel
theorem dX1_divide_31 : decode cX1_divide 31 = .ok (.iconst 1, 1) := by decide +kernel
theorem dX1_divide_32 : decode cX1_divide 32 = .ok (.iadd, 1) := by decide +kernel
theorem dX1_divide_33 : decode cX1_divide 33 = .ok (.iconst 0, 1) := by decide +kernel
theorem dX1_divide_34 : decode cX1_divide 34 = .ok (.invokestatic 49, 3) := by decide +kernel
theorem dX1_divide_37 : decode cX1_divide 37 = .ok (.istore_n 2, 1) := by decide +kernel
theorem dX1_divide_38 : decode cX1_divide 38 = .ok (.iconst 0, 1) := by decide +kernel
theorem dX1_divide_39 : decode cX1_divide 39 = .ok (.istore_n 3, 1) := by decide +kernel
theorem dX1_divide_40 : decode cX1_divide 40 = .ok (.iload_n 3, 1) := by decide +kernel
theorem dX1_divide_41 : decode cX1_divide 41 = .ok (.iload_n 2, 1) := by decide +kernel
theorem dX1_divide_42 : decode cX1_divide 42 = .ok (.if_icmp .ge 47, 3) := by decide +kernel
theorem dX1_divide_45 : decode cX1_divide 45 = .ok (.aload_n 1, 1) := by decide +kernel
theorem dX1_divide_46 : decode cX1_divide 46 = .ok (.getfield 41, 3) := by decide +kernel
theorem dX1_divide_49 : decode cX1_divide 49 = .ok (.iload_n 3, 1) := by decide +kernel
theorem dX1_divide_50 : decode cX1_divide 50 = .ok (.iaload, 1) := by decide +kernel
theorem dX1_divide_51 : decode cX1_divide 51 = .ok (.aload_n 0, 1) := by decide +kernel
theorem dX1_divide_52 : decode cX1_divide 52 = .ok (.getfield 24, 3) := by decide +kernel
theorem dX1_divide_55 : decode cX1_divide 55 = .ok (.imul, 1) := by decide +kernel
theorem dX1_divide_56 : decode cX1_divide 56 = .ok (.istore 4, 2) := by decide +kernel
theorem dX1_divide_58 : decode cX1_divide 58 = .ok (.aload_n 0, 1) := by decide +kernel
theorem dX1_divide_59 : decode cX1_divide 59 = .ok (.aload_n 1, 1) := by decide +kernel
theorem dX1_divide_60 : decode cX1_divide 60 = .ok (.getfield 41, 3) := by decide +kernel
theorem dX1_divide_63 : decode cX1_divide 63 = .ok (.iload 4, 2) := by decide +kernel
theorem dX1_divide_65 : decode cX1_divide 65 = .ok (.i2l, 1) := by decide +kernel
theorem dX1_divide_66 : decode cX1_divide 66 = .ok (.ldc2_w 55, 3) := by decide +kernel
theorem dX1_divide_69 : decode cX1_divide 69 = .ok (.land, 1) := by decide +kernel
theorem dX1_divide_70 : decode cX1_divide 70 = .ok (.iload_n 3, 1) := by decide +kernel
theorem dX1_divide_71 : decode cX1_divide 71 = .ok (.iload_n 2, 1) := by decide +kernel
theorem dX1_divide_72 : decode cX1_divide 72 = .ok (.invokevirtual 57, 3) := by decide +kernel
theorem dX1_divide_75 : decode cX1_divide 75 = .ok (.aload_n 1, 1) := by decide +kernel
theorem dX1_divide_76 : decode cX1_divide 76 = .ok (.getfield 41, 3) := by decide +kernel
theorem dX1_divide_79 : decode cX1_divide 79 = .ok (.iload_n 3, 1) := by decide +kernel
theorem dX1_divide_80 : decode cX1_divide 80 = .ok (.iload 4, 2) := by decide +kernel
theorem dX1_divide_82 : decode cX1_divide 82 = .ok (.iastore, 1) := by decide +kernel
theorem dX1_divide_83 : decode cX1_divide 83 = .ok (.iinc 3 1, 3) := by decide +kernel
theorem dX1_divide_86 : decode cX1_divide 86 = .ok (.goto (-46), 3) := by decide +kernel
theorem dX1_divide_89 : decode cX1_divide 89 = .ok (.aload_n 1, 1) := by decide +kernel
theorem dX1_divide_90 : decode cX1_divide 90 = .ok (.iload_n 2, 1) := by decide +kernel
theorem dX1_divide_91 : decode cX1_divide 91 = .ok (.invokevirtual 61, 3) := by decide +kernel
theorem dX1_divide_94 : decode cX1_divide 94 = .ok (.return_, 1) := by decide +kernel
theorem dX1_takeMultiple_0 : decode cX1_takeMultiple 0 = .ok (.lconst 0, 1) := by decide +kernel
theorem dX1_takeMultiple_1 : decode cX1_takeMultiple 1 = .ok (.lstore 6, 2) := by decide +kernel
theorem dX1_takeMultiple_3 : decode cX1_takeMultiple 3 = .ok (.iload 4, 2) := by decide +kernel
theorem dX1_takeMultiple_5 : decode cX1_takeMultiple 5 = .ok (.aload_n 0, 1) := by decide +kernel
theorem dX1_takeMultiple_6 : decode cX1_takeMultiple 6 = .ok (.getfield 14, 3) := by decide +kernel
theorem dX1_takeMultiple_9 : decode cX1_takeMultiple 9 = .ok (.getfield 38, 3) := by decide +kernel
theorem dX1_takeMultiple_12 : decode cX1_takeMultiple 12 = .ok (.iadd, 1) := by decide +kernel
theorem dX1_takeMultiple_13 : decode cX1_takeMultiple 13 = .ok (.iload 5, 2) := by decide +kernel
theorem dX1_takeMultiple_15 : decode cX1_takeMultiple 15 = .ok (.invokestatic 64, 3) := by decide +kernel
theorem dX1_takeMultiple_18 : decode cX1_takeMultiple 18 = .ok (.istore 8, 2) := by decide +kernel
theorem dX1_takeMultiple_20 : decode cX1_takeMultiple 20 = .ok (.iload 4, 2) := by decide +kernel
theorem dX1_takeMultiple_22 : decode cX1_takeMultiple 22 = .ok (.istore 9, 2) := by decide +kernel
theorem dX1_takeMultiple_24 : decode cX1_takeMultiple 24 = .ok (.iload 9, 2) := by decide +kernel
theorem dX1_takeMultiple_26 : decode cX1_takeMultiple 26 = .ok (.iload 8, 2) := by decide +kernel
theorem dX1_takeMultiple_28 : decode cX1_takeMultiple 28 = .ok (.if_icmp .ge 80, 3) := by decide +kernel
theorem dX1_takeMultiple_31 : decode cX1_takeMultiple 31 = .ok (.lload_n 2, 1) := by decide +kernel
theorem dX1_takeMultiple_32 : decode cX1_takeMultiple 32 = .ok (.aload_n 0, 1) := by decide +kernel
theorem dX1_takeMultiple_33 : decode cX1_takeMultiple 33 = .ok (.getfield 14, 3) := by decide +kernel
theorem dX1_takeMultiple_36 : decode cX1_takeMultiple 36 = .ok (.getfield 41, 3) := by decide +kernel
theorem dX1_takeMultiple_39 : decode cX1_takeMultiple 39 = .ok (.iload 9, 2) := by decide +kernel
theorem dX1_takeMultiple_41 : decode cX1_takeMultiple 41 = .ok (.iload 4, 2) := by decide +kernel
theorem dX1_takeMultiple_43 : decode cX1_takeMultiple 43 = .ok (.isub, 1) := by decide +kernel
theorem dX1_takeMultiple_44 : decode cX1_takeMultiple 44 = .ok (.iaload, 1) := by decide +kernel
theorem dX1_takeMultiple_45 : decode cX1_takeMultiple 45 = .ok (.i2l, 1) := by decide +kernel
theorem dX1_takeMultiple_46 : decode cX1_takeMultiple 46 = .ok (.ldc2_w 55, 3) := by decide +kernel
theorem dX1_takeMultiple_49 : decode cX1_takeMultiple 49 = .ok (.land, 1) := by decide +kernel
theorem dX1_takeMultiple_50 : decode cX1_takeMultiple 50 = .ok (.lmul, 1) := by decide +kernel
theorem dX1_takeMultiple_51 : decode cX1_takeMultiple 51 = .ok (.lload 6, 2) := by decide +kernel
theorem dX1_takeMultiple_53 : decode cX1_takeMultiple 53 = .ok (.ladd, 1) := by decide +kernel
theorem dX1_takeMultiple_54 : decode cX1_takeMultiple 54 = .ok (.lstore 10, 2) := by decide +kernel
theorem dX1_takeMultiple_56 : decode cX1_takeMultiple 56 = .ok (.aload_n 1, 1) := by decide +kernel
theorem dX1_takeMultiple_57 : decode cX1_takeMultiple 57 = .ok (.iload 9, 2) := by decide +kernel
theorem dX1_takeMultiple_59 : decode cX1_takeMultiple 59 = .ok (.iaload, 1) := by decide +kernel
theorem dX1_takeMultiple_60 : decode cX1_takeMultiple 60 = .ok (.i2l, 1) := by decide +kernel
theorem dX1_takeMultiple_61 : decode cX1_takeMultiple 61 = .ok (.ldc2_w 55, 3) := by decide +kernel
theorem dX1_takeMultiple_64 : decode cX1_takeMultiple 64 = .ok (.land, 1) := by decide +kernel
theorem dX1_takeMultiple_65 : decode cX1_takeMultiple 65 = .ok (.lload 10, 2) := by decide +kernel
theorem dX1_takeMultiple_67 : decode cX1_takeMultiple 67 = .ok (.ldc2_w 55, 3) := by decide +kernel
theorem dX1_takeMultiple_70 : decode cX1_takeMultiple 70 = .ok (.land, 1) := by decide +kernel
theorem dX1_takeMultiple_71 : decode cX1_takeMultiple 71 = .ok (.lsub, 1) := by decide +kernel
theorem dX1_takeMultiple_72 : decode cX1_takeMultiple 72 = .ok (.lstore 12, 2) := by decide +kernel
theorem dX1_takeMultiple_74 : decode cX1_takeMultiple 74 = .ok (.aload_n 1, 1) := by decide +kernel
theorem dX1_takeMultiple_75 : decode cX1_takeMultiple 75 = .ok (.iload 9, 2) := by decide +kernel
theorem dX1_takeMultiple_77 : decode cX1_takeMultiple 77 = .ok (.lload 12, 2) := by decide +kernel
theorem dX1_takeMultiple_79 : decode cX1_takeMultiple 79 = .ok (.l2i, 1) := by decide +kernel
theorem dX1_takeMultiple_80 : decode cX1_takeMultiple 80 = .ok (.iastore, 1) := by decide +kernel
theorem dX1_takeMultiple_81 : decode cX1_takeMultiple 81 = .ok (.lload 10, 2) := by decide +kernel
theorem dX1_takeMultiple_83 : decode cX1_takeMultiple 83 = .ok (.bipush 32, 2) := by decide +kernel
theorem dX1_takeMultiple_85 : decode cX1_takeMultiple 85 = .ok (.lushr, 1) := by decide +kernel
theorem dX1_takeMultiple_86 : decode cX1_takeMultiple 86 = .ok (.lload 12, 2) := by decide +kernel
theorem dX1_takeMultiple_88 : decode cX1_takeMultiple 88 = .ok (.lconst 0, 1) := by decide +kernel
theorem dX1_takeMultiple_89 : decode cX1_takeMultiple 89 = .ok (.lcmp, 1) := by decide +kernel
theorem dX1_takeMultiple_90 : decode cX1_takeMultiple 90 = .ok (.ifCond .ge 7, 3) := by decide +kernel
theorem dX1_takeMultiple_93 : decode cX1_takeMultiple 93 = .ok (.iconst 1, 1) := by decide +kernel
theorem dX1_takeMultiple_94 : decode cX1_takeMultiple 94 = .ok (.goto 4, 3) := by decide +kernel
theorem dX1_takeMultiple_97 : decode cX1_takeMultiple 97 = .ok (.iconst 0, 1) := by decide +kernel
theorem dX1_takeMultiple_98 : decode cX1_takeMultiple 98 = .ok (.i2l, 1) := by decide +kernel
theorem dX1_takeMultiple_99 : decode cX1_takeMultiple 99 = .ok (.ladd, 1) := by decide +kernel
theorem dX1_takeMultiple_100 : decode cX1_takeMultiple 100 = .ok (.lstore 6, 2) := by decide +kernel
theorem dX1_takeMultiple_102 : decode cX1_takeMultiple 102 = .ok (.iinc 9 1, 3) := by decide +kernel
theorem dX1_takeMultiple_105 : decode cX1_takeMultiple 105 = .ok (.goto (-81), 3) := by decide +kernel
theorem dX1_takeMultiple_108 : decode cX1_takeMultiple 108 = .ok (.iload 8, 2) := by decide +kernel
theorem dX1_takeMultiple_110 : decode cX1_takeMultiple 110 = .ok (.istore 9, 2) := by decide +kernel
theorem dX1_takeMultiple_112 : decode cX1_takeMultiple 112 = .ok (.iload 9, 2) := by decide +kernel
theorem dX1_takeMultiple_114 : decode cX1_takeMultiple 114 = .ok (.iload 5, 2) := by decide +kernel
theorem dX1_takeMultiple_116 : decode cX1_takeMultiple 116 = .ok (.if_icmp .ge 51, 3) := by decide +kernel
theorem dX1_takeMultiple_119 : decode cX1_takeMultiple 119 = .ok (.lload 6, 2) := by decide +kernel
theorem dX1_takeMultiple_121 : decode cX1_takeMultiple 121 = .ok (.lconst 0, 1) := by decide +kernel
theorem dX1_takeMultiple_122 : decode cX1_takeMultiple 122 = .ok (.lcmp, 1) := by decide +kernel
theorem dX1_takeMultiple_123 : decode cX1_takeMultiple 123 = .ok (.ifCond .eq 44, 3) := by decide +kernel
theorem dX1_takeMultiple_126 : decode cX1_takeMultiple 126 = .ok (.aload_n 1, 1) := by decide +kernel
theorem dX1_takeMultiple_127 : decode cX1_takeMultiple 127 = .ok (.iload 9, 2) := by decide +kernel
theorem dX1_takeMultiple_129 : decode cX1_takeMultiple 129 = .ok (.iaload, 1) := by decide +kernel
theorem dX1_takeMultiple_130 : decode cX1_takeMultiple 130 = .ok (.i2l, 1) := by decide +kernel
theorem dX1_takeMultiple_131 : decode cX1_takeMultiple 131 = .ok (.ldc2_w 55, 3) := by decide +kernel
theorem dX1_takeMultiple_134 : decode cX1_takeMultiple 134 = .ok (.land, 1) := by decide +kernel
theorem dX1_takeMultiple_135 : decode cX1_takeMultiple 135 = .ok (.lload 6, 2) := by decide +kernel
theorem dX1_takeMultiple_137 : decode cX1_takeMultiple 137 = .ok (.lsub, 1) := by decide +kernel
theorem dX1_takeMultiple_138 : decode cX1_takeMultiple 138 = .ok (.lstore 10, 2) := by decide +kernel
theorem dX1_takeMultiple_140 : decode cX1_takeMultiple 140 = .ok (.aload_n 1, 1) := by decide +kernel
theorem dX1_takeMultiple_141 : decode cX1_takeMultiple 141 = .ok (.iload 9, 2) := by decide +kernel
theorem dX1_takeMultiple_143 : decode cX1_takeMultiple 143 = .ok (.lload 10, 2) := by decide +kernel
theorem dX1_takeMultiple_145 : decode cX1_takeMultiple 145 = .ok (.l2i, 1) := by decide +kernel
theorem dX1_takeMultiple_146 : decode cX1_takeMultiple 146 = .ok (.iastore, 1) := by decide +kernel
theorem dX1_takeMultiple_147 : decode cX1_takeMultiple 147 = .ok (.lload 10, 2) := by decide +kernel
theorem dX1_takeMultiple_149 : decode cX1_takeMultiple 149 = .ok (.lconst 0, 1) := by decide +kernel
theorem dX1_takeMultiple_150 : decode cX1_takeMultiple 150 = .ok (.lcmp, 1) := by decide +kernel
theorem dX1_takeMultiple_151 : decode cX1_takeMultiple 151 = .ok (.ifCond .ge 7, 3) := by decide +kernel
theorem dX1_takeMultiple_154 : decode cX1_takeMultiple 154 = .ok (.lconst 1, 1) := by decide +kernel
theorem dX1_takeMultiple_155 : decode cX1_takeMultiple 155 = .ok (.goto 4, 3) := by decide +kernel
theorem dX1_takeMultiple_158 : decode cX1_takeMultiple 158 = .ok (.lconst 0, 1) := by decide +kernel
theorem dX1_takeMultiple_159 : decode cX1_takeMultiple 159 = .ok (.lstore 6, 2) := by decide +kernel
theorem dX1_takeMultiple_161 : decode cX1_takeMultiple 161 = .ok (.iinc 9 1, 3) := by decide +kernel
theorem dX1_takeMultiple_164 : decode cX1_takeMultiple 164 = .ok (.goto (-52), 3) := by decide +kernel
theorem dX1_takeMultiple_167 : decode cX1_takeMultiple 167 = .ok (.return_, 1) := by decide +kernel
set_option maxRecDepth 20000 in
theorem ggX2_init_X7_init : GoodIn wsX2_init wsX7_init := goodIn_s _ [(15, 2), (2, 2), (17, 1), (4, 1), (18, 7), (29, 8)] rfl (by decide +kernel)
set_option maxRecDepth 20000 in
theorem gX2_init_X7_init_n30 : GoodIn wsX2_init (wsX7_init) := ggX2_init_X7_init
theorem dX2_init_0 : decode cX2_init 0 = .ok (.aload_n 0, 1) := by decide +kernel
theorem dX2_init_1 : decode cX2_init 1 = .ok (.invokespecial 3, 3) := by decide +kernel
theorem dX2_init_4 : decode cX2_init 4 = .ok (.aload_n 0, 1) := by decide +kernel
theorem dX2_init_5 : decode cX2_init 5 = .ok (.iconst 4, 1) := by decide +kernel
theorem dX2_init_6 : decode cX2_init 6 = .ok (.newarray .int, 2) := by decide +kernel
theorem dX2_init_8 : decode cX2_init 8 = .ok (.putfield 11, 3) := by decide +kernel
theorem dX2_init_11 : decode cX2_init 11 = .ok (.aload_n 0, 1) := by decide +kernel
theorem dX2_init_12 : decode cX2_init 12 = .ok (.iconst 2, 1) := by decide +kernel
theorem dX2_init_13 : decode cX2_init 13 = .ok (.anewarray 15, 3) := by decide +kernel
theorem dX2_init_16 : decode cX2_init 16 = .ok (.putfield 17, 3) := by decide +kernel
theorem dX2_init_19 : decode cX2_init 19 = .ok (.aload_n 0, 1) := by decide +kernel
theorem dX2_init_20 : decode cX2_init 20 = .ok (.lconst 1, 1) := by decide +kernel
theorem dX2_init_21 : decode cX2_init 21 = .ok (.putfield 21, 3) := by decide +kernel
theorem dX2_init_24 : decode cX2_init 24 = .ok (.aload_n 0, 1) := by decide +kernel
theorem dX2_init_25 : decode cX2_init 25 = .ok (.bipush 20, 2) := by decide +kernel
theorem dX2_init_27 : decode cX2_init 27 = .ok (.bipush 20, 2) := by decide +kernel
theorem dX2_init_29 : decode cX2_init 29 = .ok (.multianewarray 25 2, 4) := by decide +kernel
theorem dX2_init_33 : decode cX2_init 33 = .ok (.putfield 27, 3) := by decide +kernel
theorem dX2_init_36 : decode cX2_init 36 = .ok (.iconst 0, 1) := by decide +kernel
theorem dX2_init_37 : decode cX2_init 37 = .ok (.istore_n 1, 1) := by decide +kernel
theorem dX2_init_38 : decode cX2_init 38 = .ok (.iload_n 1, 1) := by decide +kernel
theorem dX2_init_39 : decode cX2_init 39 = .ok (.iconst 2, 1) := by decide +kernel
theorem dX2_init_40 : decode cX2_init 40 = .ok (.if_icmp .ge 22, 3) := by decide +kernel
theorem dX2_init_43 : decode cX2_init 43 = .ok (.aload_n 0, 1) := by decide +kernel
theorem dX2_init_44 : decode cX2_init 44 = .ok (.getfield 17, 3) := by decide +kernel
theorem dX2_init_47 : decode cX2_init 47 = .ok (.iload_n 1, 1) := by decide +kernel
theorem dX2_init_48 : decode cX2_init 48 = .ok (.new 15, 3) := by decide +kernel
theorem dX2_init_51 : decode cX2_init 51 = .ok (.dup, 1) := by decide +kernel
theorem dX2_init_52 : decode cX2_init 52 = .ok (.invokespecial 30, 3) := by decide +kernel
theorem dX2_init_55 : decode cX2_init 55 = .ok (.aastore, 1) := by decide +kernel
theorem dX2_init_56 : decode cX2_init 56 = .ok (.iinc 1 1, 3) := by decide +kernel
theorem dX2_init_59 : decode cX2_init 59 = .ok (.goto (-21), 3) := by decide +kernel
theorem dX2_init_62 : decode cX2_init 62 = .ok (.return_, 1) := by decide +kernel
theorem dX2_clear_0 : decode cX2_clear 0 = .ok (.iconst 0, 1) := by decide +kernel
theorem dX2_clear_1 : decode cX2_clear 1 = .ok (.istore_n 1, 1) := by decide +kernel
theorem dX2_clear_2 : decode cX2_clear 2 = .ok (.iload_n 1, 1) := by decide +kernel
theorem dX2_clear_3 : decode cX2_clear 3 = .ok (.iconst 4, 1) := by decide +kernel
theorem dX2_clear_4 : decode cX2_clear 4 = .ok (.if_icmp .ge 16, 3) := by decide +kernel
theorem dX2_clear_7 : decode cX2_clear 7 = .ok (.aload_n 0, 1) := by decide +kernel
theorem dX2_clear_8 : decode cX2_clear 8 = .ok (.getfield 11, 3) := by decide +kernel
theorem dX2_clear_11 : decode cX2_clear 11 = .ok (.iload_n 1, 1) := by decide +kernel
theorem dX2_clear_12 : decode cX2_clear 12 = .ok (.iconst 0, 1) := by decide +kernel
theorem dX2_clear_13 : decode cX2_clear 13 = .ok (.iastore, 1) := by decide +kernel
theorem dX2_clear_14 : decode cX2_clear 14 = .ok (.iinc 1 1, 3) := by decide +kernel
theorem dX2_clear_17 : decode cX2_clear 17 = .ok (.goto (-15), 3) := by decide +kernel
theorem dX2_clear_20 : decode cX2_clear 20 = .ok (.iconst 0, 1) := by decide +kernel
theorem dX2_clear_21 : decode cX2_clear 21 = .ok (.istore_n 1, 1) := by decide +kernel
theorem dX2_clear_22 : decode cX2_clear 22 = .ok (.iload_n 1, 1) := by decide +kernel
theorem dX2_clear_23 : decode cX2_clear 23 = .ok (.iconst 2, 1) := by decide +kernel
theorem dX2_clear_24 : decode cX2_clear 24 = .ok (.if_icmp .ge 19, 3) := by decide +kernel
theorem dX2_clear_27 : decode cX2_clear 27 = .ok (.aload_n 0, 1) := by decide +kernel
theorem dX2_clear_28 : decode cX2_clear 28 = .ok (.getfield 17, 3) := by decide +kernel
theorem dX2_clear_31 : decode cX2_clear 31 = .ok (.iload_n 1, 1) := by decide +kernel
theorem dX2_clear_32 : decode cX2_clear 32 = .ok (.aaload, 1) := by decide +kernel
theorem dX2_clear_33 : decode cX2_clear 33 = .ok (.iconst 0, 1) := by decide +kernel
theorem dX2_clear_34 : decode cX2_clear 34 = .ok (.putfield 31, 3) := by decide +kernel
theorem dX2_clear_37 : decode cX2_clear 37 = .ok (.iinc 1 1, 3) := by decide +kernel
theorem dX2_clear_40 : decode cX2_clear 40 = .ok (.goto (-18), 3) := by decide +kernel
theorem dX2_clear_43 : decode cX2_clear 43 = .ok (.iconst 0, 1) := by decide +kernel
theorem dX2_clear_44 : decode cX2_clear 44 = .ok (.istore_n 1, 1) := by decide +kernel
theorem dX2_clear_45 : decode cX2_clear 45 = .ok (.iload_n 1, 1) := by decide +kernel
theorem dX2_clear_46 : decode cX2_clear 46 = .ok (.bipush 20, 2) := by decide +kernel
theorem dX2_clear_48 : decode cX2_clear 48 = .ok (.if_icmp .ge 32, 3) := by decide +kernel
theorem dX2_clear_51 : decode cX2_clear 51 = .ok (.iconst 0, 1) := by decide +kernel
theorem dX2_clear_52 : decode cX2_clear 52 = .ok (.istore_n 2, 1) := by decide +kernel
theorem dX2_clear_53 : decode cX2_clear 53 = .ok (.iload_n 2, 1) := by decide +kernel
theorem dX2_clear_54 : decode cX2_clear 54 = .ok (.bipush 20, 2) := by decide +kernel
theorem dX2_clear_56 : decode cX2_clear 56 = .ok (.if_icmp .ge 18, 3) := by decide +kernel
theorem dX2_clear_59 : decode cX2_clear 59 = .ok (.aload_n 0, 1) := by decide +kernel
theorem dX2_clear_60 : decode cX2_clear 60 = .ok (.getfield 27, 3) := by decide +kernel
theorem dX2_clear_63 : decode cX2_clear 63 = .ok (.iload_n 1, 1) := by decide +kernel
theorem dX2_clear_64 : decode cX2_clear 64 = .ok (.aaload, 1) := by decide +kernel
theorem dX2_clear_65 : decode cX2_clear 65 = .ok (.iload_n 2, 1) := by decide +kernel
theorem dX2_clear_66 : decode cX2_clear 66 = .ok (.lconst 0, 1) := by decide +kernel
theorem dX2_clear_67 : decode cX2_clear 67 = .ok (.lastore, 1) := by decide +kernel
theorem dX2_clear_68 : decode cX2_clear 68 = .ok (.iinc 2 1, 3) := by decide +kernel
theorem dX2_clear_71 : decode cX2_clear 71 = .ok (.goto (-18), 3) := by decide +kernel
theorem dX2_clear_74 : decode cX2_clear 74 = .ok (.iinc 1 1, 3) := by decide +kernel
theorem dX2_clear_77 : decode cX2_clear 77 = .ok (.goto (-32), 3) := by decide +kernel
theorem dX2_clear_80 : decode cX2_clear 80 = .ok (.return_, 1) := by decide +kernel
theorem dX2_weight_0 : decode cX2_weight 0 = .ok (.iload_n 1, 1) := by decide +kernel
theorem dX2_weight_1 : decode cX2_weight 1 = .ok (.ifCond .ne 14, 3) := by decide +kernel
theorem dX2_weight_4 : decode cX2_weight 4 = .ok (.aload_n 0, 1) := by decide +kernel
theorem dX2_weight_5 : decode cX2_weight 5 = .ok (.getfield 27, 3) := by decide +kernel
theorem dX2_weight_8 : decode cX2_weight 8 = .ok (.iload_n 2, 1) := by decide +kernel
theorem dX2_weight_9 : decode cX2_weight 9 = .ok (.aaload, 1) := by decide +kernel
theorem dX2_weight_10 : decode cX2_weight 10 = .ok (.iload_n 3, 1) := by decide +kernel
theorem dX2_weight_11 : decode cX2_weight 11 = .ok (.laload, 1) := by decide +kernel
theorem dX2_weight_12 : decode cX2_weight 12 = .ok (.goto 11, 3) := by decide +kernel
theorem dX2_weight_15 : decode cX2_weight 15 = .ok (.aload_n 0, 1) := by decide +kernel
theorem dX2_weight_16 : decode cX2_weight 16 = .ok (.getfield 27, 3) := by decide +kernel
theorem dX2_weight_19 : decode cX2_weight 19 = .ok (.iload_n 3, 1) := by decide +kernel
theorem dX2_weight_20 : decode cX2_weight 20 = .ok (.aaload, 1) := by decide +kernel
theorem dX2_weight_21 : decode cX2_weight 21 = .ok (.iload_n 2, 1) := by decide +kernel
theorem dX2_weight_22 : decode cX2_weight 22 = .ok (.laload, 1) := by decide +kernel
theorem dX2_weight_23 : decode cX2_weight 23 = .ok (.lreturn, 1) := by decide +kernel
theorem dX2_sumOfSizes_0 : decode cX2_sumOfSizes 0 = .ok (.lconst 0, 1) := by decide +kernel
theorem dX2_sumOfSizes_1 : decode cX2_sumOfSizes 1 = .ok (.lstore_n 1, 1) := by decide +kernel
theorem dX2_sumOfSizes_2 : decode cX2_sumOfSizes 2 = .ok (.iconst 0, 1) := by decide +kernel
theorem dX2_sumOfSizes_3 : decode cX2_sumOfSizes 3 = .ok (.istore_n 3, 1) := by decide +kernel
theorem dX2_sumOfSizes_4 : decode cX2_sumOfSizes 4 = .ok (.iload_n 3, 1) := by decide +kernel
theorem dX2_sumOfSizes_5 : decode cX2_sumOfSizes 5 = .ok (.aload_n 0, 1) := by decide +kernel
theorem dX2_sumOfSizes_6 : decode cX2_sumOfSizes 6 = .ok (.getfield 17, 3) := by decide +kernel
theorem dX2_sumOfSizes_9 : decode cX2_sumOfSizes 9 = .ok (.iconst 0, 1) := by decide +kernel
theorem dX2_sumOfSizes_10 : decode cX2_sumOfSizes 10 = .ok (.aaload, 1) := by decide +kernel
theorem dX2_sumOfSizes_11 : decode cX2_sumOfSizes 11 = .ok (.getfield 35, 3) := by decide +kernel
theorem dX2_sumOfSizes_14 : decode cX2_sumOfSizes 14 = .ok (.if_icmp .ge 47, 3) := by decide +kernel
theorem dX2_sumOfSizes_17 : decode cX2_sumOfSizes 17 = .ok (.iconst 0, 1) := by decide +kernel
theorem dX2_sumOfSizes_18 : decode cX2_sumOfSizes 18 = .ok (.istore 4, 2) := by decide +kernel
theorem dX2_sumOfSizes_20 : decode cX2_sumOfSizes 20 = .ok (.iload 4, 2) := by decide +kernel
theorem dX2_sumOfSizes_22 : decode cX2_sumOfSizes 22 = .ok (.aload_n 0, 1) := by decide +kernel
theorem dX2_sumOfSizes_23 : decode cX2_sumOfSizes 23 = .ok (.getfield 17, 3) := by decide +kernel
theorem dX2_sumOfSizes_26 : decode cX2_sumOfSizes 26 = .ok (.iconst 1, 1) := by decide +kernel
theorem dX2_sumOfSizes_27 : decode cX2_sumOfSizes 27 = .ok (.aaload, 1) := by decide +kernel
theorem dX2_sumOfSizes_28 : decode cX2_sumOfSizes 28 = .ok (.getfield 35, 3) := by decide +kernel
theorem dX2_sumOfSizes_31 : decode cX2_sumOfSizes 31 = .ok (.if_icmp .ge 24, 3) := by decide +kernel
theorem dX2_sumOfSizes_34 : decode cX2_sumOfSizes 34 = .ok (.lload_n 1, 1) := by decide +kernel
theorem dX2_sumOfSizes_35 : decode cX2_sumOfSizes 35 = .ok (.aload_n 0, 1) := by decide +kernel
theorem dX2_sumOfSizes_36 : decode cX2_sumOfSizes 36 = .ok (.getfield 27, 3) := by decide +kernel
theorem dX2_sumOfSizes_39 : decode cX2_sumOfSizes 39 = .ok (.iload_n 3, 1) := by decide +kernel
theorem dX2_sumOfSizes_40 : decode cX2_sumOfSizes 40 = .ok (.aaload, 1) := by decide +kernel
theorem dX2_sumOfSizes_41 : decode cX2_sumOfSizes 41 = .ok (.iload 4, 2) := by decide +kernel
theorem dX2_sumOfSizes_43 : decode cX2_sumOfSizes 43 = .ok (.laload, 1) := by decide +kernel
theorem dX2_sumOfSizes_44 : decode cX2_sumOfSizes 44 = .ok (.invokestatic 38, 3) := by decide +kernel
theorem dX2_sumOfSizes_47 : decode cX2_sumOfSizes 47 = .ok (.ladd, 1) := by decide +kernel
theorem dX2_sumOfSizes_48 : decode cX2_sumOfSizes 48 = .ok (.lstore_n 1, 1) := by decide +kernel
theorem dX2_sumOfSizes_49 : decode cX2_sumOfSizes 49 = .ok (.iinc 4 1, 3) := by decide +kernel
theorem dX2_sumOfSizes_52 : decode cX2_sumOfSizes 52 = .ok (.goto (-32), 3) := by decide +kernel
theorem dX2_sumOfSizes_55 : decode cX2_sumOfSizes 55 = .ok (.iinc 3 1, 3) := by decide +kernel
theorem dX2_sumOfSizes_58 : decode cX2_sumOfSizes 58 = .ok (.goto (-54), 3) := by decide +kernel
theorem dX2_sumOfSizes_61 : decode cX2_sumOfSizes 61 = .ok (.lload_n 1, 1) := by decide +kernel
theorem dX2_sumOfSizes_62 : decode cX2_sumOfSizes 62 = .ok (.lreturn, 1) := by decide +kernel
set_option maxRecDepth 20000 in
theorem ggX3_init_X0_init : GoodIn wsX3_init wsX0_init := goodIn_s _ [(11, 2), (2, 2), (13, 4), (19, 3)] rfl (by decide +kernel)
set_option maxRecDepth 20000 in
theorem gX3_init_X0_init : GoodIn wsX3_init (wsX0_init) := ggX3_init_X0_init
theorem dX3_init_0 : decode cX3_init 0 = .ok (.aload_n 0, 1) := by decide +kernel
theorem dX3_init_1 : decode cX3_init 1 = .ok (.invokespecial 3, 3) := by decide +kernel
theorem dX3_init_4 : decode cX3_init 4 = .ok (.aload_n 0, 1) := by decide +kernel
theorem dX3_init_5 : decode cX3_init 5 = .ok (.bipush 20, 2) := by decide +kernel
theorem dX3_init_7 : decode cX3_init 7 = .ok (.anewarray 9, 3) := by decide +kernel
theorem dX3_init_10 : decode cX3_init 10 = .ok (.putfield 11, 3) := by decide +kernel
theorem dX3_init_13 : decode cX3_init 13 = .ok (.aload_n 0, 1) := by decide +kernel
theorem dX3_init_14 : decode cX3_init 14 = .ok (.new 9, 3) := by decide +kernel
theorem dX3_init_17 : decode cX3_init 17 = .ok (.dup, 1) := by decide +kernel
theorem dX3_init_18 : decode cX3_init 18 = .ok (.bipush 32, 2) := by decide +kernel
theorem dX3_init_20 : decode cX3_init 20 = .ok (.invokespecial 17, 3) := by decide +kernel
theorem dX3_init_23 : decode cX3_init 23 = .ok (.putfield 20, 3) := by decide +kernel
theorem dX3_init_26 : decode cX3_init 26 = .ok (.iconst 0, 1) := by decide +kernel
theorem dX3_init_27 : decode cX3_init 27 = .ok (.istore_n 1, 1) := by decide +kernel
theorem dX3_init_28 : decode cX3_init 28 = .ok (.iload_n 1, 1) := by decide +kernel
theorem dX3_init_29 : decode cX3_init 29 = .ok (.bipush 20, 2) := by decide +kernel
theorem dX3_init_31 : decode cX3_init 31 = .ok (.if_icmp .ge 24, 3) := by decide +kernel
theorem dX3_init_34 : decode cX3_init 34 = .ok (.aload_n 0, 1) := by decide +kernel
theorem dX3_init_35 : decode cX3_init 35 = .ok (.getfield 11, 3) := by decide +kernel
theorem dX3_init_38 : decode cX3_init 38 = .ok (.iload_n 1, 1) := by decide +kernel
theorem dX3_init_39 : decode cX3_init 39 = .ok (.new 9, 3) := by decide +kernel
theorem dX3_init_42 : decode cX3_init 42 = .ok (.dup, 1) := by decide +kernel
theorem dX3_init_43 : decode cX3_init 43 = .ok (.bipush 32, 2) := by decide +kernel
theorem dX3_init_45 : decode cX3_init 45 = .ok (.invokespecial 17, 3) := by decide +kernel
theorem dX3_init_48 : decode cX3_init 48 = .ok (.aastore, 1) := by decide +kernel
theorem dX3_init_49 : decode cX3_init 49 = .ok (.iinc 1 1, 3) := by decide +kernel
theorem dX3_init_52 : decode cX3_init 52 = .ok (.goto (-24), 3) := by decide +kernel
theorem dX3_init_55 : decode cX3_init 55 = .ok (.return_, 1) := by decide +kernel
set_option maxRecDepth 20000 in
theorem ggX3_isMix_X0_sign : GoodIn wsX3_isMix wsX0_sign := goodIn_s _ [(12, 3), (72, 3)] rfl (by decide +kernel)
set_option maxRecDepth 20000 in
theorem gX3_isMix_X0_sign : GoodIn wsX3_isMix (wsV RX3 30 RX0 yX0_sign wsX0_sign) := goodIn_app (goodIn_r _ [8, 9, 10, 11] rfl (by decide +kernel)) ggX3_isMix_X0_sign
set_option maxRecDepth 20000 in
theorem ggX3_isMix_X0_put : GoodIn wsX3_isMix wsX0_put := goodIn_r _ [18, 14, 13, 19, 72, 73, 74] rfl (by decide +kernel)
set_option maxRecDepth 20000 in
theorem gX3_isMix_X0_put : GoodIn wsX3_isMix (wsV RX3 37 RX0 yX0_put wsX0_put) := goodIn_app (goodIn_r _ [15, 16, 17, 11] rfl (by decide +kernel)) ggX3_isMix_X0_put
set_option maxRecDepth 20000 in
theorem ggX3_isMix_X0_plus : GoodIn wsX3_isMix wsX0_plus := goodIn_s _ [(23, 1), (13, 2), (24, 3), (11, 1), (27, 1), (19, 1), (28, 29), (72, 3)] rfl (by decide +kernel)
set_option maxRecDepth 20000 in
theorem gX3_isMix_X0_plus : GoodIn wsX3_isMix (wsV RX3 48 RX0 yX0_plus wsX0_plus) := goodIn_app (goodIn_r _ [20, 21, 22, 11] rfl (by decide +kernel)) ggX3_isMix_X0_plus
set_option maxRecDepth 20000 in
theorem ggX3_isMix_X0_order : GoodIn wsX3_isMix wsX0_order := goodIn_s _ [(60, 1), (14, 1), (61, 1), (9, 5), (41, 4), (19, 1), (45, 4), (40, 1), (72, 3)] rfl (by decide +kernel)
set_option maxRecDepth 20000 in
theorem gX3_isMix_X0_order : GoodIn wsX3_isMix (wsV RX3 55 RX0 yX0_order wsX0_order) := goodIn_app (goodIn_r _ [57, 58, 59, 11] rfl (by decide +kernel)) ggX3_isMix_X0_order
theorem dX3_isMix_0 : decode cX3_isMix 0 = .ok (.iconst 0, 1) := by decide +kernel
theorem dX3_isMix_1 : decode cX3_isMix 1 = .ok (.istore_n 2, 1) := by decide +kernel
theorem dX3_isMix_2 : decode cX3_isMix 2 = .ok (.iload_n 2, 1) := by decide +kernel
theorem dX3_isMix_3 : decode cX3_isMix 3 = .ok (.aload_n 1, 1) := by decide +kernel
theorem dX3_isMix_4 : decode cX3_isMix 4 = .ok (.getfield 24, 3) := by decide +kernel
theorem dX3_isMix_7 : decode cX3_isMix 7 = .ok (.if_icmp .ge 23, 3) := by decide +kernel
theorem dX3_isMix_10 : decode cX3_isMix 10 = .ok (.aload_n 0, 1) := by decide +kernel
theorem dX3_isMix_11 : decode cX3_isMix 11 = .ok (.getfield 11, 3) := by decide +kernel
theorem dX3_isMix_14 : decode cX3_isMix 14 = .ok (.iload_n 2, 1) := by decide +kernel
theorem dX3_isMix_15 : decode cX3_isMix 15 = .ok (.aaload, 1) := by decide +kernel
theorem dX3_isMix_16 : decode cX3_isMix 16 = .ok (.invokevirtual 30, 3) := by decide +kernel
theorem dX3_isMix_19 : decode cX3_isMix 19 = .ok (.ifCond .ge 5, 3) := by decide +kernel
theorem dX3_isMix_22 : decode cX3_isMix 22 = .ok (.iconst 0, 1) := by decide +kernel
theorem dX3_isMix_23 : decode cX3_isMix 23 = .ok (.ireturn, 1) := by decide +kernel
theorem dX3_isMix_24 : decode cX3_isMix 24 = .ok (.iinc 2 1, 3) := by decide +kernel
theorem dX3_isMix_27 : decode cX3_isMix 27 = .ok (.goto (-25), 3) := by decide +kernel
theorem dX3_isMix_30 : decode cX3_isMix 30 = .ok (.iconst 0, 1) := by decide +kernel
theorem dX3_isMix_31 : decode cX3_isMix 31 = .ok (.istore_n 2, 1) := by decide +kernel
theorem dX3_isMix_32 : decode cX3_isMix 32 = .ok (.iload_n 2, 1) := by decide +kernel
theorem dX3_isMix_33 : decode cX3_isMix 33 = .ok (.aload_n 1, 1) := by decide +kernel
theorem dX3_isMix_34 : decode cX3_isMix 34 = .ok (.getfield 34, 3) := by decide +kernel
theorem dX3_isMix_37 : decode cX3_isMix 37 = .ok (.if_icmp .ge 78, 3) := by decide +kernel
theorem dX3_isMix_40 : decode cX3_isMix 40 = .ok (.aload_n 0, 1) := by decide +kernel
theorem dX3_isMix_41 : decode cX3_isMix 41 = .ok (.getfield 20, 3) := by decide +kernel
theorem dX3_isMix_44 : decode cX3_isMix 44 = .ok (.lconst 0, 1) := by decide +kernel
theorem dX3_isMix_45 : decode cX3_isMix 45 = .ok (.invokevirtual 37, 3) := by decide +kernel
theorem dX3_isMix_48 : decode cX3_isMix 48 = .ok (.iconst 0, 1) := by decide +kernel
theorem dX3_isMix_49 : decode cX3_isMix 49 = .ok (.istore_n 3, 1) := by decide +kernel
theorem dX3_isMix_50 : decode cX3_isMix 50 = .ok (.iload_n 3, 1) := by decide +kernel
theorem dX3_isMix_51 : decode cX3_isMix 51 = .ok (.aload_n 1, 1) := by decide +kernel
theorem dX3_isMix_52 : decode cX3_isMix 52 = .ok (.getfield 41, 3) := by decide +kernel
theorem dX3_isMix_55 : decode cX3_isMix 55 = .ok (.iload_n 2, 1) := by decide +kernel
theorem dX3_isMix_56 : decode cX3_isMix 56 = .ok (.iaload, 1) := by decide +kernel
theorem dX3_isMix_57 : decode cX3_isMix 57 = .ok (.if_icmp .ge 29, 3) := by decide +kernel
theorem dX3_isMix_60 : decode cX3_isMix 60 = .ok (.aload_n 0, 1) := by decide +kernel
theorem dX3_isMix_61 : decode cX3_isMix 61 = .ok (.getfield 20, 3) := by decide +kernel
theorem dX3_isMix_64 : decode cX3_isMix 64 = .ok (.aload_n 0, 1) := by decide +kernel
theorem dX3_isMix_65 : decode cX3_isMix 65 = .ok (.getfield 11, 3) := by decide +kernel
