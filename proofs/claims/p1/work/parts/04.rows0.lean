theorem dX0_init_0 : decode cX0_init 0 = .ok (.aload_n 0, 1) := by decide +kernel
theorem dX0_init_1 : decode cX0_init 1 = .ok (.invokespecial 1, 3) := by decide +kernel
theorem dX0_init_4 : decode cX0_init 4 = .ok (.aload_n 0, 1) := by decide +kernel
theorem dX0_init_5 : decode cX0_init 5 = .ok (.iconst 0, 1) := by decide +kernel
theorem dX0_init_6 : decode cX0_init 6 = .ok (.putfield 7, 3) := by decide +kernel
theorem dX0_init_9 : decode cX0_init 9 = .ok (.aload_n 0, 1) := by decide +kernel
theorem dX0_init_10 : decode cX0_init 10 = .ok (.iconst 0, 1) := by decide +kernel
theorem dX0_init_11 : decode cX0_init 11 = .ok (.putfield 13, 3) := by decide +kernel
theorem dX0_init_14 : decode cX0_init 14 = .ok (.aload_n 0, 1) := by decide +kernel
theorem dX0_init_15 : decode cX0_init 15 = .ok (.iload_n 1, 1) := by decide +kernel
theorem dX0_init_16 : decode cX0_init 16 = .ok (.newarray .int, 2) := by decide +kernel
theorem dX0_init_18 : decode cX0_init 18 = .ok (.putfield 17, 3) := by decide +kernel
theorem dX0_init_21 : decode cX0_init 21 = .ok (.return_, 1) := by decide +kernel
set_option maxRecDepth 20000 in
theorem ggX1_init_X0_init : GoodIn wsX1_init wsX0_init := goodIn_r _ [12, 13, 2, 3, 14, 15, 16, 17, 18, 19, 20] (by decide +kernel) (by decide +kernel)
set_option maxRecDepth 20000 in
theorem gX1_init_X0_init : GoodIn wsX1_init (wsX0_init) := ggX1_init_X0_init
theorem dX1_init_0 : decode cX1_init 0 = .ok (.aload_n 0, 1) := by decide +kernel
theorem dX1_init_1 : decode cX1_init 1 = .ok (.invokespecial 3, 3) := by decide +kernel
theorem dX1_init_4 : decode cX1_init 4 = .ok (.aload_n 0, 1) := by decide +kernel
theorem dX1_init_5 : decode cX1_init 5 = .ok (.new 9, 3) := by decide +kernel
theorem dX1_init_8 : decode cX1_init 8 = .ok (.dup, 1) := by decide +kernel
theorem dX1_init_9 : decode cX1_init 9 = .ok (.bipush 32, 2) := by decide +kernel
theorem dX1_init_11 : decode cX1_init 11 = .ok (.invokespecial 11, 3) := by decide +kernel
theorem dX1_init_14 : decode cX1_init 14 = .ok (.putfield 14, 3) := by decide +kernel
theorem dX1_init_17 : decode cX1_init 17 = .ok (.aload_n 0, 1) := by decide +kernel
theorem dX1_init_18 : decode cX1_init 18 = .ok (.iconst 0, 1) := by decide +kernel
theorem dX1_init_19 : decode cX1_init 19 = .ok (.putfield 20, 3) := by decide +kernel
theorem dX1_init_22 : decode cX1_init 22 = .ok (.aload_n 0, 1) := by decide +kernel
theorem dX1_init_23 : decode cX1_init 23 = .ok (.iconst 1, 1) := by decide +kernel
theorem dX1_init_24 : decode cX1_init 24 = .ok (.putfield 24, 3) := by decide +kernel
theorem dX1_init_27 : decode cX1_init 27 = .ok (.return_, 1) := by decide +kernel
set_option maxRecDepth 20000 in
theorem ggX2_init_X7_init : GoodIn wsX2_init wsX7_init := goodIn_r _ [15, 16, 2, 3, 17, 4, 18, 19, 20, 21, 22, 23, 24, 29, 30, 31, 32, 33, 34, 35, 36] (by decide +kernel) (by decide +kernel)
set_option maxRecDepth 20000 in
theorem gX2_init_X7_init_n30 : GoodIn wsX2_init (wsX7_init) := ggX2_init_X7_init
theorem dX2_init_0 : decode cX2_init 0 = .ok (.aload_n 0, 1) := by decide +kernel
theorem dX2_init_1 : decode cX2_init 1 = .ok (.invokespecial 3, 3) := by decide +kernel
theorem dX2_init_4 : decode cX2_init 4 = .ok (.aload_n 0, 1) := by decide +kernel
theorem dX2_init_5 : decode cX2_init 5 = .ok (.iconst 4, 1) := by decide +kernel
theorem dX2_init_6 : decode cX2_init 6 = .ok (.newarray .int, 2) := by decide +kernel
theorem dX2_init_8 : decode cX2_init 8 = .ok (.putfield 11, 3) := by decide +kernel
theorem dX2_init_11 : decode cX2_init 11 = .ok (.aload_n 0, 1) := by decide +kernel
theorem dX2_init_12 : decode cX2_init 12 = .ok (.iconst 2, 1) := by decide +kernel
theorem dX2_init_13 : decode cX2_init 13 = .ok (.anewarray 15, 3) := by decide +kernel
theorem dX2_init_16 : decode cX2_init 16 = .ok (.putfield 17, 3) := by decide +kernel
theorem dX2_init_19 : decode cX2_init 19 = .ok (.aload_n 0, 1) := by decide +kernel
theorem dX2_init_20 : decode cX2_init 20 = .ok (.lconst 1, 1) := by decide +kernel
theorem dX2_init_21 : decode cX2_init 21 = .ok (.putfield 21, 3) := by decide +kernel
theorem dX2_init_24 : decode cX2_init 24 = .ok (.aload_n 0, 1) := by decide +kernel
theorem dX2_init_25 : decode cX2_init 25 = .ok (.bipush 20, 2) := by decide +kernel
theorem dX2_init_27 : decode cX2_init 27 = .ok (.bipush 20, 2) := by decide +kernel
theorem dX2_init_29 : decode cX2_init 29 = .ok (.multianewarray 25 2, 4) := by decide +kernel
theorem dX2_init_33 : decode cX2_init 33 = .ok (.putfield 27, 3) := by decide +kernel
theorem dX2_init_36 : decode cX2_init 36 = .ok (.iconst 0, 1) := by decide +kernel
theorem dX2_init_37 : decode cX2_init 37 = .ok (.istore_n 1, 1) := by decide +kernel
theorem dX2_init_38 : decode cX2_init 38 = .ok (.iload_n 1, 1) := by decide +kernel
theorem dX2_init_39 : decode cX2_init 39 = .ok (.iconst 2, 1) := by decide +kernel
theorem dX2_init_40 : decode cX2_init 40 = .ok (.if_icmp .ge 22, 3) := by decide +kernel
theorem dX2_init_43 : decode cX2_init 43 = .ok (.aload_n 0, 1) := by decide +kernel
theorem dX2_init_44 : decode cX2_init 44 = .ok (.getfield 17, 3) := by decide +kernel
theorem dX2_init_47 : decode cX2_init 47 = .ok (.iload_n 1, 1) := by decide +kernel
theorem dX2_init_48 : decode cX2_init 48 = .ok (.new 15, 3) := by decide +kernel
theorem dX2_init_51 : decode cX2_init 51 = .ok (.dup, 1) := by decide +kernel
theorem dX2_init_52 : decode cX2_init 52 = .ok (.invokespecial 30, 3) := by decide +kernel
theorem dX2_init_55 : decode cX2_init 55 = .ok (.aastore, 1) := by decide +kernel
theorem dX2_init_56 : decode cX2_init 56 = .ok (.iinc 1 1, 3) := by decide +kernel
theorem dX2_init_59 : decode cX2_init 59 = .ok (.goto (-21), 3) := by decide +kernel
theorem dX2_init_62 : decode cX2_init 62 = .ok (.return_, 1) := by decide +kernel
theorem dX2_clear_0 : decode cX2_clear 0 = .ok (.iconst 0, 1) := by decide +kernel
theorem dX2_clear_1 : decode cX2_clear 1 = .ok (.istore_n 1, 1) := by decide +kernel
theorem dX2_clear_2 : decode cX2_clear 2 = .ok (.iload_n 1, 1) := by decide +kernel
theorem dX2_clear_3 : decode cX2_clear 3 = .ok (.iconst 4, 1) := by decide +kernel
theorem dX2_clear_4 : decode cX2_clear 4 = .ok (.if_icmp .ge 16, 3) := by decide +kernel
theorem dX2_clear_7 : decode cX2_clear 7 = .ok (.aload_n 0, 1) := by decide +kernel
theorem dX2_clear_8 : decode cX2_clear 8 = .ok (.getfield 11, 3) := by decide +kernel
theorem dX2_clear_11 : decode cX2_clear 11 = .ok (.iload_n 1, 1) := by decide +kernel
theorem dX2_clear_12 : decode cX2_clear 12 = .ok (.iconst 0, 1) := by decide +kernel
theorem dX2_clear_13 : decode cX2_clear 13 = .ok (.iastore, 1) := by decide +kernel
theorem dX2_clear_14 : decode cX2_clear 14 = .ok (.iinc 1 1, 3) := by decide +kernel
theorem dX2_clear_17 : decode cX2_clear 17 = .ok (.goto (-15), 3) := by decide +kernel
theorem dX2_clear_20 : decode cX2_clear 20 = .ok (.iconst 0, 1) := by decide +kernel
theorem dX2_clear_21 : decode cX2_clear 21 = .ok (.istore_n 1, 1) := by decide +kernel
theorem dX2_clear_22 : decode cX2_clear 22 = .ok (.iload_n 1, 1) := by decide +kernel
theorem dX2_clear_23 : decode cX2_clear 23 = .ok (.iconst 2, 1) := by decide +kernel
theorem dX2_clear_24 : decode cX2_clear 24 = .ok (.if_icmp .ge 19, 3) := by decide +kernel
theorem dX2_clear_27 : decode cX2_clear 27 = .ok (.aload_n 0, 1) := by decide +kernel
theorem dX2_clear_28 : decode cX2_clear 28 = .ok (.getfield 17, 3) := by decide +kernel
theorem dX2_clear_31 : decode cX2_clear 31 = .ok (.iload_n 1, 1) := by decide +kernel
theorem dX2_clear_32 : decode cX2_clear 32 = .ok (.aaload, 1) := by decide +kernel
theorem dX2_clear_33 : decode cX2_clear 33 = .ok (.iconst 0, 1) := by decide +kernel
theorem dX2_clear_34 : decode cX2_clear 34 = .ok (.putfield 31, 3) := by decide +kernel
theorem dX2_clear_37 : decode cX2_clear 37 = .ok (.iinc 1 1, 3) := by decide +kernel
theorem dX2_clear_40 : decode cX2_clear 40 = .ok (.goto (-18), 3) := by decide +kernel
theorem dX2_clear_43 : decode cX2_clear 43 = .ok (.iconst 0, 1) := by decide +kernel
theorem dX2_clear_44 : decode cX2_clear 44 = .ok (.istore_n 1, 1) := by decide +kernel
theorem dX2_clear_45 : decode cX2_clear 45 = .ok (.iload_n 1, 1) := by decide +kernel
theorem dX2_clear_46 : decode cX2_clear 46 = .ok (.bipush 20, 2) := by decide +kernel
theorem dX2_clear_48 : decode cX2_clear 48 = .ok (.if_icmp .ge 32, 3) := by decide +kernel
theorem dX2_clear_51 : decode cX2_clear 51 = .ok (.iconst 0, 1) := by decide +kernel
theorem dX2_clear_52 : decode cX2_clear 52 = .ok (.istore_n 2, 1) := by decide +kernel
theorem dX2_clear_53 : decode cX2_clear 53 = .ok (.iload_n 2, 1) := by decide +kernel
theorem dX2_clear_54 : decode cX2_clear 54 = .ok (.bipush 20, 2) := by decide +kernel
theorem dX2_clear_56 : decode cX2_clear 56 = .ok (.if_icmp .ge 18, 3) := by decide +kernel
theorem dX2_clear_59 : decode cX2_clear 59 = .ok (.aload_n 0, 1) := by decide +kernel
theorem dX2_clear_60 : decode cX2_clear 60 = .ok (.getfield 27, 3) := by decide +kernel
theorem dX2_clear_63 : decode cX2_clear 63 = .ok (.iload_n 1, 1) := by decide +kernel
theorem dX2_clear_64 : decode cX2_clear 64 = .ok (.aaload, 1) := by decide +kernel
theorem dX2_clear_65 : decode cX2_clear 65 = .ok (.iload_n 2, 1) := by decide +kernel
theorem dX2_clear_66 : decode cX2_clear 66 = .ok (.lconst 0, 1) := by decide +kernel
theorem dX2_clear_67 : decode cX2_clear 67 = .ok (.lastore, 1) := by decide +kernel
theorem dX2_clear_68 : decode cX2_clear 68 = .ok (.iinc 2 1, 3) := by decide +kernel
theorem dX2_clear_71 : decode cX2_clear 71 = .ok (.goto (-18), 3) := by decide +kernel
theorem dX2_clear_74 : decode cX2_clear 74 = .ok (.iinc 1 1, 3) := by decide +kernel
theorem dX2_clear_77 : decode cX2_clear 77 = .ok (.goto (-32), 3) := by decide +kernel
theorem dX2_clear_80 : decode cX2_clear 80 = .ok (.return_, 1) := by decide +kernel
set_option maxRecDepth 20000 in
theorem ggX3_init_X0_init : GoodIn wsX3_init wsX0_init := goodIn_r _ [11, 12, 2, 3, 13, 14, 15, 16, 19, 20, 21] (by decide +kernel) (by decide +kernel)
set_option maxRecDepth 20000 in
theorem gX3_init_X0_init : GoodIn wsX3_init (wsX0_init) := ggX3_init_X0_init
theorem dX3_init_0 : decode cX3_init 0 = .ok (.aload_n 0, 1) := by decide +kernel
theorem dX3_init_1 : decode cX3_init 1 = .ok (.invokespecial 3, 3) := by decide +kernel
theorem dX3_init_4 : decode cX3_init 4 = .ok (.aload_n 0, 1) := by decide +kernel
theorem dX3_init_5 : decode cX3_init 5 = .ok (.bipush 20, 2) := by decide +kernel
theorem dX3_init_7 : decode cX3_init 7 = .ok (.anewarray 9, 3) := by decide +kernel
theorem dX3_init_10 : decode cX3_init 10 = .ok (.putfield 11, 3) := by decide +kernel
theorem dX3_init_13 : decode cX3_init 13 = .ok (.aload_n 0, 1) := by decide +kernel
theorem dX3_init_14 : decode cX3_init 14 = .ok (.new 9, 3) := by decide +kernel
theorem dX3_init_17 : decode cX3_init 17 = .ok (.dup, 1) := by decide +kernel
theorem dX3_init_18 : decode cX3_init 18 = .ok (.bipush 32, 2) := by decide +kernel
theorem dX3_init_20 : decode cX3_init 20 = .ok (.invokespecial 17, 3) := by decide +kernel
theorem dX3_init_23 : decode cX3_init 23 = .ok (.putfield 20, 3) := by decide +kernel
theorem dX3_init_26 : decode cX3_init 26 = .ok (.iconst 0, 1) := by decide +kernel
theorem dX3_init_27 : decode cX3_init 27 = .ok (.istore_n 1, 1) := by decide +kernel
theorem dX3_init_28 : decode cX3_init 28 = .ok (.iload_n 1, 1) := by decide +kernel
theorem dX3_init_29 : decode cX3_init 29 = .ok (.bipush 20, 2) := by decide +kernel
theorem dX3_init_31 : decode cX3_init 31 = .ok (.if_icmp .ge 24, 3) := by decide +kernel
theorem dX3_init_34 : decode cX3_init 34 = .ok (.aload_n 0, 1) := by decide +kernel
theorem dX3_init_35 : decode cX3_init 35 = .ok (.getfield 11, 3) := by decide +kernel
theorem dX3_init_38 : decode cX3_init 38 = .ok (.iload_n 1, 1) := by decide +kernel
theorem dX3_init_39 : decode cX3_init 39 = .ok (.new 9, 3) := by decide +kernel
theorem dX3_init_42 : decode cX3_init 42 = .ok (.dup, 1) := by decide +kernel
theorem dX3_init_43 : decode cX3_init 43 = .ok (.bipush 32, 2) := by decide +kernel
theorem dX3_init_45 : decode cX3_init 45 = .ok (.invokespecial 17, 3) := by decide +kernel
theorem dX3_init_48 : decode cX3_init 48 = .ok (.aastore, 1) := by decide +kernel
theorem dX3_init_49 : decode cX3_init 49 = .ok (.iinc 1 1, 3) := by decide +kernel
theorem dX3_init_52 : decode cX3_init 52 = .ok (.goto (-24), 3) := by decide +kernel
theorem dX3_init_55 : decode cX3_init 55 = .ok (.return_, 1) := by decide +kernel
set_option maxRecDepth 20000 in
theorem ggX4_init_X0_init : GoodIn wsX4_init wsX0_init := goodIn_r _ [18, 19, 2, 3, 20, 21, 22, 23, 32, 33, 34] (by decide +kernel) (by decide +kernel)
set_option maxRecDepth 20000 in
theorem gX4_init_X0_init : GoodIn wsX4_init (wsX0_init) := ggX4_init_X0_init
set_option maxRecDepth 20000 in
theorem ggX4_init_X1_init : GoodIn wsX4_init wsX1_init := goodIn_r _ [25, 26, 2, 3, 27, 5, 6, 28, 29, 30, 31, 17, 18, 19, 20, 21, 22, 23, 32, 33, 34, 41, 42, 43] (by decide +kernel) (by decide +kernel)
set_option maxRecDepth 20000 in
theorem gX4_init_X1_init_n35 : GoodIn wsX4_init (wsX1_init) := ggX4_init_X1_init
theorem dX4_init_0 : decode cX4_init 0 = .ok (.aload_n 0, 1) := by decide +kernel
theorem dX4_init_1 : decode cX4_init 1 = .ok (.invokespecial 3, 3) := by decide +kernel
theorem dX4_init_4 : decode cX4_init 4 = .ok (.aload_n 0, 1) := by decide +kernel
theorem dX4_init_5 : decode cX4_init 5 = .ok (.new 9, 3) := by decide +kernel
theorem dX4_init_8 : decode cX4_init 8 = .ok (.dup, 1) := by decide +kernel
theorem dX4_init_9 : decode cX4_init 9 = .ok (.bipush 32, 2) := by decide +kernel
theorem dX4_init_11 : decode cX4_init 11 = .ok (.invokespecial 11, 3) := by decide +kernel
theorem dX4_init_14 : decode cX4_init 14 = .ok (.putfield 14, 3) := by decide +kernel
theorem dX4_init_17 : decode cX4_init 17 = .ok (.aload_n 0, 1) := by decide +kernel
theorem dX4_init_18 : decode cX4_init 18 = .ok (.new 9, 3) := by decide +kernel
theorem dX4_init_21 : decode cX4_init 21 = .ok (.dup, 1) := by decide +kernel
theorem dX4_init_22 : decode cX4_init 22 = .ok (.bipush 32, 2) := by decide +kernel
theorem dX4_init_24 : decode cX4_init 24 = .ok (.invokespecial 11, 3) := by decide +kernel
theorem dX4_init_27 : decode cX4_init 27 = .ok (.putfield 20, 3) := by decide +kernel
theorem dX4_init_30 : decode cX4_init 30 = .ok (.aload_n 0, 1) := by decide +kernel
theorem dX4_init_31 : decode cX4_init 31 = .ok (.iconst 0, 1) := by decide +kernel
theorem dX4_init_32 : decode cX4_init 32 = .ok (.putfield 23, 3) := by decide +kernel
theorem dX4_init_35 : decode cX4_init 35 = .ok (.aload_n 0, 1) := by decide +kernel
theorem dX4_init_36 : decode cX4_init 36 = .ok (.new 9, 3) := by decide +kernel
theorem dX4_init_39 : decode cX4_init 39 = .ok (.dup, 1) := by decide +kernel
theorem dX4_init_40 : decode cX4_init 40 = .ok (.bipush 64, 2) := by decide +kernel
theorem dX4_init_42 : decode cX4_init 42 = .ok (.invokespecial 11, 3) := by decide +kernel
theorem dX4_init_45 : decode cX4_init 45 = .ok (.putfield 27, 3) := by decide +kernel
theorem dX4_init_48 : decode cX4_init 48 = .ok (.aload_n 0, 1) := by decide +kernel
theorem dX4_init_49 : decode cX4_init 49 = .ok (.new 9, 3) := by decide +kernel
theorem dX4_init_52 : decode cX4_init 52 = .ok (.dup, 1) := by decide +kernel
theorem dX4_init_53 : decode cX4_init 53 = .ok (.bipush 64, 2) := by decide +kernel
theorem dX4_init_55 : decode cX4_init 55 = .ok (.invokespecial 11, 3) := by decide +kernel
theorem dX4_init_58 : decode cX4_init 58 = .ok (.putfield 30, 3) := by decide +kernel
theorem dX4_init_61 : decode cX4_init 61 = .ok (.aload_n 0, 1) := by decide +kernel
theorem dX4_init_62 : decode cX4_init 62 = .ok (.new 33, 3) := by decide +kernel
theorem dX4_init_65 : decode cX4_init 65 = .ok (.dup, 1) := by decide +kernel
theorem dX4_init_66 : decode cX4_init 66 = .ok (.invokespecial 35, 3) := by decide +kernel
theorem dX4_init_69 : decode cX4_init 69 = .ok (.putfield 36, 3) := by decide +kernel
theorem dX4_init_72 : decode cX4_init 72 = .ok (.return_, 1) := by decide +kernel
set_option maxRecDepth 20000 in
theorem ggX5_init_X10_init : GoodIn wsX5_init wsX10_init := goodIn_r _ [27, 28, 2, 3, 29, 30, 31, 32, 33, 34, 35, 72, 73, 74, 75, 76, 77] (by decide +kernel) (by decide +kernel)
set_option maxRecDepth 20000 in
theorem gX5_init_X10_init_n20 : GoodIn wsX5_init (wsX10_init) := ggX5_init_X10_init
set_option maxRecDepth 20000 in
theorem ggX5_init_X2_init : GoodIn wsX5_init wsX2_init := goodIn_r _ [38, 39, 2, 3, 23, 40, 41, 42, 43, 44, 20, 45, 46, 47, 48, 49, 50, 51, 52, 53, 54, 55, 56, 57, 58, 78, 79, 80, 81, 82, 83, 84, 85, 86, 87, 88, 89] (by decide +kernel) (by decide +kernel)
set_option maxRecDepth 20000 in
theorem gX5_init_X2_init : GoodIn wsX5_init (wsX2_init) := ggX5_init_X2_init
theorem dX5_init_0 : decode cX5_init 0 = .ok (.aload_n 0, 1) := by decide +kernel
theorem dX5_init_1 : decode cX5_init 1 = .ok (.invokespecial 3, 3) := by decide +kernel
theorem dX5_init_4 : decode cX5_init 4 = .ok (.aload_n 0, 1) := by decide +kernel
theorem dX5_init_5 : decode cX5_init 5 = .ok (.iconst (-1), 1) := by decide +kernel
theorem dX5_init_6 : decode cX5_init 6 = .ok (.putfield 9, 3) := by decide +kernel
theorem dX5_init_9 : decode cX5_init 9 = .ok (.aload_n 0, 1) := by decide +kernel
theorem dX5_init_10 : decode cX5_init 10 = .ok (.iconst 0, 1) := by decide +kernel
theorem dX5_init_11 : decode cX5_init 11 = .ok (.putfield 15, 3) := by decide +kernel
theorem dX5_init_14 : decode cX5_init 14 = .ok (.aload_n 0, 1) := by decide +kernel
theorem dX5_init_15 : decode cX5_init 15 = .ok (.new 18, 3) := by decide +kernel
theorem dX5_init_18 : decode cX5_init 18 = .ok (.dup, 1) := by decide +kernel
theorem dX5_init_19 : decode cX5_init 19 = .ok (.invokespecial 20, 3) := by decide +kernel
theorem dX5_init_22 : decode cX5_init 22 = .ok (.putfield 21, 3) := by decide +kernel
theorem dX5_init_25 : decode cX5_init 25 = .ok (.aload_n 0, 1) := by decide +kernel
theorem dX5_init_26 : decode cX5_init 26 = .ok (.new 25, 3) := by decide +kernel
theorem dX5_init_29 : decode cX5_init 29 = .ok (.dup, 1) := by decide +kernel
theorem dX5_init_30 : decode cX5_init 30 = .ok (.invokespecial 27, 3) := by decide +kernel
theorem dX5_init_33 : decode cX5_init 33 = .ok (.putfield 28, 3) := by decide +kernel
theorem dX5_init_36 : decode cX5_init 36 = .ok (.aload_n 0, 1) := by decide +kernel
theorem dX5_init_37 : decode cX5_init 37 = .ok (.sipush 2000, 3) := by decide +kernel
theorem dX5_init_40 : decode cX5_init 40 = .ok (.newarray .boolean, 2) := by decide +kernel
theorem dX5_init_42 : decode cX5_init 42 = .ok (.putfield 32, 3) := by decide +kernel
theorem dX5_init_45 : decode cX5_init 45 = .ok (.aload_n 0, 1) := by decide +kernel
theorem dX5_init_46 : decode cX5_init 46 = .ok (.iconst 0, 1) := by decide +kernel
theorem dX5_init_47 : decode cX5_init 47 = .ok (.putfield 36, 3) := by decide +kernel
theorem dX5_init_50 : decode cX5_init 50 = .ok (.aload_n 0, 1) := by decide +kernel
theorem dX5_init_51 : decode cX5_init 51 = .ok (.iconst 0, 1) := by decide +kernel
theorem dX5_init_52 : decode cX5_init 52 = .ok (.putfield 39, 3) := by decide +kernel
theorem dX5_init_55 : decode cX5_init 55 = .ok (.aload_n 0, 1) := by decide +kernel
theorem dX5_init_56 : decode cX5_init 56 = .ok (.lconst 0, 1) := by decide +kernel
theorem dX5_init_57 : decode cX5_init 57 = .ok (.putfield 43, 3) := by decide +kernel
theorem dX5_init_60 : decode cX5_init 60 = .ok (.aload_n 0, 1) := by decide +kernel
theorem dX5_init_61 : decode cX5_init 61 = .ok (.lconst 1, 1) := by decide +kernel
theorem dX5_init_62 : decode cX5_init 62 = .ok (.putfield 47, 3) := by decide +kernel
theorem dX5_init_65 : decode cX5_init 65 = .ok (.aload_n 0, 1) := by decide +kernel
theorem dX5_init_66 : decode cX5_init 66 = .ok (.sipush 400, 3) := by decide +kernel
theorem dX5_init_69 : decode cX5_init 69 = .ok (.newarray .long, 2) := by decide +kernel
theorem dX5_init_71 : decode cX5_init 71 = .ok (.putfield 50, 3) := by decide +kernel
theorem dX5_init_74 : decode cX5_init 74 = .ok (.aload_n 0, 1) := by decide +kernel
theorem dX5_init_75 : decode cX5_init 75 = .ok (.sipush 400, 3) := by decide +kernel
theorem dX5_init_78 : decode cX5_init 78 = .ok (.newarray .long, 2) := by decide +kernel
theorem dX5_init_80 : decode cX5_init 80 = .ok (.putfield 54, 3) := by decide +kernel
theorem dX5_init_83 : decode cX5_init 83 = .ok (.aload_n 0, 1) := by decide +kernel
theorem dX5_init_84 : decode cX5_init 84 = .ok (.sipush 400, 3) := by decide +kernel
theorem dX5_init_87 : decode cX5_init 87 = .ok (.newarray .int, 2) := by decide +kernel
theorem dX5_init_89 : decode cX5_init 89 = .ok (.putfield 57, 3) := by decide +kernel
theorem dX5_init_92 : decode cX5_init 92 = .ok (.aload_n 0, 1) := by decide +kernel
theorem dX5_init_93 : decode cX5_init 93 = .ok (.sipush 400, 3) := by decide +kernel
theorem dX5_init_96 : decode cX5_init 96 = .ok (.newarray .int, 2) := by decide +kernel
theorem dX5_init_98 : decode cX5_init 98 = .ok (.putfield 61, 3) := by decide +kernel
theorem dX5_init_101 : decode cX5_init 101 = .ok (.return_, 1) := by decide +kernel
set_option maxRecDepth 20000 in
theorem ggX5_understand_X2_clear : GoodIn wsX5_understand wsX2_clear := goodIn_r _ [10, 11, 12, 13, 14, 207, 208, 209, 210, 211, 212, 213, 214, 215, 216, 217, 218] (by decide +kernel) (by decide +kernel)
set_option maxRecDepth 20000 in
theorem gX5_understand_X2_clear : GoodIn wsX5_understand (wsV RX5 64 RX2 yX2_clear wsX2_clear) := goodIn_app (goodIn_of _ (by decide +kernel)) ggX5_understand_X2_clear
set_option maxRecDepth 20000 in
theorem ggX5_understand_X10_goToStart : GoodIn wsX5_understand wsX10_goToStart := goodIn_r _ [19, 20, 21, 22, 23, 18, 24, 25, 26, 27, 28, 29, 30, 31, 32, 33, 34, 35, 36, 201, 202, 203, 204, 205, 206] (by decide +kernel) (by decide +kernel)
set_option maxRecDepth 20000 in
theorem gX5_understand_X10_goToStart : GoodIn wsX5_understand (wsV RX5 67 RX10 yX10_goToStart wsX10_goToStart) := goodIn_app (goodIn_of _ (by decide +kernel)) ggX5_understand_X10_goToStart
set_option maxRecDepth 20000 in
theorem ggX5_understand_X5_isOne : GoodIn wsX5_understand wsX5_isOne := goodIn_r _ [41, 42, 43, 4, 44, 45, 46, 47, 40, 48, 49, 50, 51, 52, 53, 54, 55, 56, 57, 58, 59, 60, 61, 62, 63, 64, 65, 66, 22, 23, 18, 24, 20, 25, 26, 27, 28, 29, 30, 31, 32, 33, 34, 35, 36, 188, 189, 190, 191, 192, 193, 194, 195, 196, 197, 198, 199, 200, 201, 202, 203, 204, 205, 206] rfl (by decide +kernel)
set_option maxRecDepth 20000 in
theorem gX5_understand_X5_isOne : GoodIn wsX5_understand (wsV RX5 70 RX5 yX5_isOne wsX5_isOne) := goodIn_app (goodIn_of _ (by decide +kernel)) ggX5_understand_X5_isOne
set_option maxRecDepth 20000 in
theorem ggX5_understand_X5_refuse : GoodIn wsX5_understand wsX5_refuse := goodIn_r _ [70, 2, 3, 188, 189, 190, 191, 192, 193, 194, 195, 196, 197, 198, 199, 200] (by decide +kernel) (by decide +kernel)
set_option maxRecDepth 20000 in
theorem gX5_understand_X5_refuse : GoodIn wsX5_understand (wsV RX5 77 RX5 yX5_refuse wsX5_refuse) := goodIn_app (goodIn_of _ (by decide +kernel)) ggX5_understand_X5_refuse
theorem dX5_understand_0 : decode cX5_understand 0 = .ok (.aload_n 0, 1) := by decide +kernel
theorem dX5_understand_1 : decode cX5_understand 1 = .ok (.getfield 28, 3) := by decide +kernel
theorem dX5_understand_4 : decode cX5_understand 4 = .ok (.invokevirtual 64, 3) := by decide +kernel
theorem dX5_understand_7 : decode cX5_understand 7 = .ok (.aload_n 0, 1) := by decide +kernel
theorem dX5_understand_8 : decode cX5_understand 8 = .ok (.iconst 0, 1) := by decide +kernel
theorem dX5_understand_9 : decode cX5_understand 9 = .ok (.putfield 15, 3) := by decide +kernel
theorem dX5_understand_12 : decode cX5_understand 12 = .ok (.aload_n 0, 1) := by decide +kernel
theorem dX5_understand_13 : decode cX5_understand 13 = .ok (.iconst (-1), 1) := by decide +kernel
theorem dX5_understand_14 : decode cX5_understand 14 = .ok (.putfield 9, 3) := by decide +kernel
theorem dX5_understand_17 : decode cX5_understand 17 = .ok (.aload_n 0, 1) := by decide +kernel
theorem dX5_understand_18 : decode cX5_understand 18 = .ok (.getfield 21, 3) := by decide +kernel
theorem dX5_understand_21 : decode cX5_understand 21 = .ok (.invokevirtual 67, 3) := by decide +kernel
theorem dX5_understand_24 : decode cX5_understand 24 = .ok (.aload_n 0, 1) := by decide +kernel
theorem dX5_understand_25 : decode cX5_understand 25 = .ok (.invokevirtual 70, 3) := by decide +kernel
theorem dX5_understand_28 : decode cX5_understand 28 = .ok (.ifCond .ne 21, 3) := by decide +kernel
theorem dX5_understand_31 : decode cX5_understand 31 = .ok (.aload_n 0, 1) := by decide +kernel
theorem dX5_understand_32 : decode cX5_understand 32 = .ok (.iconst 1, 1) := by decide +kernel
theorem dX5_understand_33 : decode cX5_understand 33 = .ok (.aload_n 0, 1) := by decide +kernel
theorem dX5_understand_34 : decode cX5_understand 34 = .ok (.getfield 21, 3) := by decide +kernel
theorem dX5_understand_37 : decode cX5_understand 37 = .ok (.getfield 74, 3) := by decide +kernel
theorem dX5_understand_40 : decode cX5_understand 40 = .ok (.invokevirtual 77, 3) := by decide +kernel
theorem dX5_understand_43 : decode cX5_understand 43 = .ok (.pop, 1) := by decide +kernel
theorem dX5_understand_44 : decode cX5_understand 44 = .ok (.aload_n 0, 1) := by decide +kernel
theorem dX5_understand_45 : decode cX5_understand 45 = .ok (.getfield 15, 3) := by decide +kernel
theorem dX5_understand_48 : decode cX5_understand 48 = .ok (.ireturn, 1) := by decide +kernel
theorem dX5_understand_49 : decode cX5_understand 49 = .ok (.aload_n 0, 1) := by decide +kernel
theorem dX5_understand_50 : decode cX5_understand 50 = .ok (.getfield 21, 3) := by decide +kernel
theorem dX5_understand_53 : decode cX5_understand 53 = .ok (.invokevirtual 67, 3) := by decide +kernel
theorem dX5_understand_56 : decode cX5_understand 56 = .ok (.aload_n 0, 1) := by decide +kernel
theorem dX5_understand_57 : decode cX5_understand 57 = .ok (.iconst 0, 1) := by decide +kernel
theorem dX5_understand_58 : decode cX5_understand 58 = .ok (.lconst 1, 1) := by decide +kernel
theorem dX5_understand_59 : decode cX5_understand 59 = .ok (.lconst 1, 1) := by decide +kernel
theorem dX5_understand_60 : decode cX5_understand 60 = .ok (.iconst (-1), 1) := by decide +kernel
theorem dX5_understand_61 : decode cX5_understand 61 = .ok (.iconst (-1), 1) := by decide +kernel
theorem dX5_understand_62 : decode cX5_understand 62 = .ok (.invokevirtual 81, 3) := by decide +kernel
theorem dX5_understand_65 : decode cX5_understand 65 = .ok (.ifCond .eq 7, 3) := by decide +kernel
theorem dX5_understand_68 : decode cX5_understand 68 = .ok (.aload_n 0, 1) := by decide +kernel
theorem dX5_understand_69 : decode cX5_understand 69 = .ok (.invokevirtual 85, 3) := by decide +kernel
theorem dX5_understand_72 : decode cX5_understand 72 = .ok (.aload_n 0, 1) := by decide +kernel
theorem dX5_understand_73 : decode cX5_understand 73 = .ok (.getfield 15, 3) := by decide +kernel
theorem dX5_understand_76 : decode cX5_understand 76 = .ok (.ireturn, 1) := by decide +kernel
theorem dX5_refuse_0 : decode cX5_refuse 0 = .ok (.aload_n 0, 1) := by decide +kernel
theorem dX5_refuse_1 : decode cX5_refuse 1 = .ok (.iload_n 1, 1) := by decide +kernel
theorem dX5_refuse_2 : decode cX5_refuse 2 = .ok (.putfield 15, 3) := by decide +kernel
theorem dX5_refuse_5 : decode cX5_refuse 5 = .ok (.aload_n 0, 1) := by decide +kernel
theorem dX5_refuse_6 : decode cX5_refuse 6 = .ok (.iload_n 2, 1) := by decide +kernel
theorem dX5_refuse_7 : decode cX5_refuse 7 = .ok (.putfield 9, 3) := by decide +kernel
theorem dX5_refuse_10 : decode cX5_refuse 10 = .ok (.iconst 0, 1) := by decide +kernel
theorem dX5_refuse_11 : decode cX5_refuse 11 = .ok (.ireturn, 1) := by decide +kernel
set_option maxRecDepth 20000 in
theorem ggX5_isOne_X10_advance : GoodIn wsX5_isOne wsX10_advance := goodIn_r _ [31, 32, 33, 34, 35, 36, 37, 38, 39, 30, 40, 41, 42, 43, 44, 58, 59, 60, 61, 62, 63] (by decide +kernel) (by decide +kernel)
set_option maxRecDepth 20000 in
theorem gX5_isOne_X10_advance : GoodIn wsX5_isOne (wsV RX5 95 RX10 yX10_advance wsX10_advance) := goodIn_app (goodIn_of _ (by decide +kernel)) ggX5_isOne_X10_advance
theorem dX5_isOne_0 : decode cX5_isOne 0 = .ok (.aload_n 0, 1) := by decide +kernel
theorem dX5_isOne_1 : decode cX5_isOne 1 = .ok (.iconst 0, 1) := by decide +kernel
theorem dX5_isOne_2 : decode cX5_isOne 2 = .ok (.putfield 36, 3) := by decide +kernel
theorem dX5_isOne_5 : decode cX5_isOne 5 = .ok (.aload_n 0, 1) := by decide +kernel
theorem dX5_isOne_6 : decode cX5_isOne 6 = .ok (.iconst 0, 1) := by decide +kernel
theorem dX5_isOne_7 : decode cX5_isOne 7 = .ok (.putfield 39, 3) := by decide +kernel
theorem dX5_isOne_10 : decode cX5_isOne 10 = .ok (.iconst 1, 1) := by decide +kernel
theorem dX5_isOne_11 : decode cX5_isOne 11 = .ok (.istore_n 1, 1) := by decide +kernel
theorem dX5_isOne_12 : decode cX5_isOne 12 = .ok (.iconst 0, 1) := by decide +kernel
theorem dX5_isOne_13 : decode cX5_isOne 13 = .ok (.istore_n 2, 1) := by decide +kernel
theorem dX5_isOne_14 : decode cX5_isOne 14 = .ok (.iload_n 2, 1) := by decide +kernel
theorem dX5_isOne_15 : decode cX5_isOne 15 = .ok (.sipush 4000, 3) := by decide +kernel
theorem dX5_isOne_18 : decode cX5_isOne 18 = .ok (.if_icmp .gt 38, 3) := by decide +kernel
theorem dX5_isOne_21 : decode cX5_isOne 21 = .ok (.aload_n 0, 1) := by decide +kernel
theorem dX5_isOne_22 : decode cX5_isOne 22 = .ok (.getfield 21, 3) := by decide +kernel
theorem dX5_isOne_25 : decode cX5_isOne 25 = .ok (.getfield 88, 3) := by decide +kernel
theorem dX5_isOne_28 : decode cX5_isOne 28 = .ok (.ifCond .eq 28, 3) := by decide +kernel
theorem dX5_isOne_31 : decode cX5_isOne 31 = .ok (.aload_n 0, 1) := by decide +kernel
theorem dX5_isOne_32 : decode cX5_isOne 32 = .ok (.iload_n 1, 1) := by decide +kernel
theorem dX5_isOne_33 : decode cX5_isOne 33 = .ok (.invokevirtual 91, 3) := by decide +kernel
theorem dX5_isOne_36 : decode cX5_isOne 36 = .ok (.istore_n 1, 1) := by decide +kernel
