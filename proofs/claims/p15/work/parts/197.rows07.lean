set_option maxRecDepth 20000 in
theorem gX12_read_X12_cut : GoodIn wsX12_read (wsV RX12 318 RX12 yX12_cut wsX12_cut) := goodIn_app (goodIn_r _ [13, 14, 15, 16] rfl (by decide +kernel)) ggX12_read_X12_cut
set_option maxRecDepth 20000 in
theorem ggX12_read_X12_bad : GoodIn wsX12_read wsX12_bad := goodIn_s _ [(31, 3), (20, 1), (34, 3), (16, 1), (37, 9), (130, 58)] rfl (by decide +kernel)
set_option maxRecDepth 20000 in
theorem gX12_read_X12_bad : GoodIn wsX12_read (wsV RX12 321 RX12 yX12_bad wsX12_bad) := goodIn_app (goodIn_r _ [28, 29, 30, 16] rfl (by decide +kernel)) ggX12_read_X12_bad
set_option maxRecDepth 20000 in
theorem ggX12_read_X12_go : GoodIn wsX12_read wsX12_go := goodIn_s _ [(49, 2), (7, 1), (51, 5), (6, 1), (56, 5), (16, 1), (61, 1), (20, 2), (62, 11), (3, 1), (5, 1), (73, 50), (18, 1), (123, 65)] rfl (by decide +kernel)
set_option maxRecDepth 20000 in
theorem gX12_read_X12_go : GoodIn wsX12_read (wsV RX12 325 RX12 yX12_go wsX12_go) := goodIn_app (goodIn_r _ [46, 47, 48, 16] rfl (by decide +kernel)) ggX12_read_X12_go
theorem dX12_read_0 : decode cX12_read 0 = .ok (.aload_n 0, 1) := by decide +kernel
theorem dX12_read_1 : decode cX12_read 1 = .ok (.iconst 0, 1) := by decide +kernel
theorem dX12_read_2 : decode cX12_read 2 = .ok (.putfield 223, 3) := by decide +kernel
theorem dX12_read_5 : decode cX12_read 5 = .ok (.aload_n 0, 1) := by decide +kernel
theorem dX12_read_6 : decode cX12_read 6 = .ok (.invokevirtual 318, 3) := by decide +kernel
theorem dX12_read_9 : decode cX12_read 9 = .ok (.aload_n 0, 1) := by decide +kernel
theorem dX12_read_10 : decode cX12_read 10 = .ok (.iconst 0, 1) := by decide +kernel
theorem dX12_read_11 : decode cX12_read 11 = .ok (.putfield 226, 3) := by decide +kernel
theorem dX12_read_14 : decode cX12_read 14 = .ok (.aload_n 0, 1) := by decide +kernel
theorem dX12_read_15 : decode cX12_read 15 = .ok (.invokevirtual 321, 3) := by decide +kernel
theorem dX12_read_18 : decode cX12_read 18 = .ok (.istore_n 1, 1) := by decide +kernel
theorem dX12_read_19 : decode cX12_read 19 = .ok (.iload_n 1, 1) := by decide +kernel
theorem dX12_read_20 : decode cX12_read 20 = .ok (.ifCond .lt 15, 3) := by decide +kernel
theorem dX12_read_23 : decode cX12_read 23 = .ok (.aload_n 0, 1) := by decide +kernel
theorem dX12_read_24 : decode cX12_read 24 = .ok (.aload_n 0, 1) := by decide +kernel
theorem dX12_read_25 : decode cX12_read 25 = .ok (.getfield 105, 3) := by decide +kernel
theorem dX12_read_28 : decode cX12_read 28 = .ok (.iload_n 1, 1) := by decide +kernel
theorem dX12_read_29 : decode cX12_read 29 = .ok (.iaload, 1) := by decide +kernel
theorem dX12_read_30 : decode cX12_read 30 = .ok (.putfield 98, 3) := by decide +kernel
theorem dX12_read_33 : decode cX12_read 33 = .ok (.iconst 1, 1) := by decide +kernel
theorem dX12_read_34 : decode cX12_read 34 = .ok (.ireturn, 1) := by decide +kernel
theorem dX12_read_35 : decode cX12_read 35 = .ok (.aload_n 0, 1) := by decide +kernel
theorem dX12_read_36 : decode cX12_read 36 = .ok (.invokevirtual 325, 3) := by decide +kernel
theorem dX12_read_39 : decode cX12_read 39 = .ok (.ifCond .eq 16, 3) := by decide +kernel
theorem dX12_read_42 : decode cX12_read 42 = .ok (.aload_n 0, 1) := by decide +kernel
theorem dX12_read_43 : decode cX12_read 43 = .ok (.aload_n 0, 1) := by decide +kernel
theorem dX12_read_44 : decode cX12_read 44 = .ok (.getfield 259, 3) := by decide +kernel
theorem dX12_read_47 : decode cX12_read 47 = .ok (.putfield 98, 3) := by decide +kernel
theorem dX12_read_50 : decode cX12_read 50 = .ok (.aload_n 0, 1) := by decide +kernel
theorem dX12_read_51 : decode cX12_read 51 = .ok (.getfield 256, 3) := by decide +kernel
theorem dX12_read_54 : decode cX12_read 54 = .ok (.ireturn, 1) := by decide +kernel
theorem dX12_read_55 : decode cX12_read 55 = .ok (.aload_n 0, 1) := by decide +kernel
theorem dX12_read_56 : decode cX12_read 56 = .ok (.aload_n 0, 1) := by decide +kernel
theorem dX12_read_57 : decode cX12_read 57 = .ok (.getfield 172, 3) := by decide +kernel
theorem dX12_read_60 : decode cX12_read 60 = .ok (.putfield 328, 3) := by decide +kernel
theorem dX12_read_63 : decode cX12_read 63 = .ok (.aload_n 0, 1) := by decide +kernel
theorem dX12_read_64 : decode cX12_read 64 = .ok (.iconst 1, 1) := by decide +kernel
theorem dX12_read_65 : decode cX12_read 65 = .ok (.aload_n 0, 1) := by decide +kernel
theorem dX12_read_66 : decode cX12_read 66 = .ok (.getfield 328, 3) := by decide +kernel
theorem dX12_read_69 : decode cX12_read 69 = .ok (.isub, 1) := by decide +kernel
theorem dX12_read_70 : decode cX12_read 70 = .ok (.putfield 172, 3) := by decide +kernel
theorem dX12_read_73 : decode cX12_read 73 = .ok (.aload_n 0, 1) := by decide +kernel
theorem dX12_read_74 : decode cX12_read 74 = .ok (.iconst 1, 1) := by decide +kernel
theorem dX12_read_75 : decode cX12_read 75 = .ok (.putfield 331, 3) := by decide +kernel
theorem dX12_read_78 : decode cX12_read 78 = .ok (.aload_n 0, 1) := by decide +kernel
theorem dX12_read_79 : decode cX12_read 79 = .ok (.iconst (-1), 1) := by decide +kernel
theorem dX12_read_80 : decode cX12_read 80 = .ok (.putfield 98, 3) := by decide +kernel
theorem dX12_read_83 : decode cX12_read 83 = .ok (.iconst 0, 1) := by decide +kernel
theorem dX12_read_84 : decode cX12_read 84 = .ok (.istore_n 2, 1) := by decide +kernel
theorem dX12_read_85 : decode cX12_read 85 = .ok (.iload_n 2, 1) := by decide +kernel
theorem dX12_read_86 : decode cX12_read 86 = .ok (.iconst 4, 1) := by decide +kernel
theorem dX12_read_87 : decode cX12_read 87 = .ok (.if_icmp .ge 16, 3) := by decide +kernel
theorem dX12_read_90 : decode cX12_read 90 = .ok (.aload_n 0, 1) := by decide +kernel
theorem dX12_read_91 : decode cX12_read 91 = .ok (.getfield 205, 3) := by decide +kernel
theorem dX12_read_94 : decode cX12_read 94 = .ok (.iload_n 2, 1) := by decide +kernel
theorem dX12_read_95 : decode cX12_read 95 = .ok (.iconst 0, 1) := by decide +kernel
theorem dX12_read_96 : decode cX12_read 96 = .ok (.bastore, 1) := by decide +kernel
theorem dX12_read_97 : decode cX12_read 97 = .ok (.iinc 2 1, 3) := by decide +kernel
theorem dX12_read_100 : decode cX12_read 100 = .ok (.goto (-15), 3) := by decide +kernel
theorem dX12_read_103 : decode cX12_read 103 = .ok (.iconst 0, 1) := by decide +kernel
theorem dX12_read_104 : decode cX12_read 104 = .ok (.istore_n 2, 1) := by decide +kernel
theorem dX12_read_105 : decode cX12_read 105 = .ok (.iload_n 2, 1) := by decide +kernel
theorem dX12_read_106 : decode cX12_read 106 = .ok (.bipush 80, 2) := by decide +kernel
theorem dX12_read_108 : decode cX12_read 108 = .ok (.if_icmp .ge 33, 3) := by decide +kernel
theorem dX12_read_111 : decode cX12_read 111 = .ok (.aload_n 0, 1) := by decide +kernel
theorem dX12_read_112 : decode cX12_read 112 = .ok (.getfield 199, 3) := by decide +kernel
theorem dX12_read_115 : decode cX12_read 115 = .ok (.iload_n 2, 1) := by decide +kernel
theorem dX12_read_116 : decode cX12_read 116 = .ok (.iload_n 2, 1) := by decide +kernel
theorem dX12_read_117 : decode cX12_read 117 = .ok (.iconst 4, 1) := by decide +kernel
theorem dX12_read_118 : decode cX12_read 118 = .ok (.irem, 1) := by decide +kernel
theorem dX12_read_119 : decode cX12_read 119 = .ok (.ifCond .ne 7, 3) := by decide +kernel
theorem dX12_read_122 : decode cX12_read 122 = .ok (.iconst 1, 1) := by decide +kernel
theorem dX12_read_123 : decode cX12_read 123 = .ok (.goto 4, 3) := by decide +kernel
theorem dX12_read_126 : decode cX12_read 126 = .ok (.iconst 0, 1) := by decide +kernel
theorem dX12_read_127 : decode cX12_read 127 = .ok (.iastore, 1) := by decide +kernel
theorem dX12_read_128 : decode cX12_read 128 = .ok (.aload_n 0, 1) := by decide +kernel
theorem dX12_read_129 : decode cX12_read 129 = .ok (.getfield 202, 3) := by decide +kernel
theorem dX12_read_132 : decode cX12_read 132 = .ok (.iload_n 2, 1) := by decide +kernel
theorem dX12_read_133 : decode cX12_read 133 = .ok (.iconst 1, 1) := by decide +kernel
theorem dX12_read_134 : decode cX12_read 134 = .ok (.iastore, 1) := by decide +kernel
theorem dX12_read_135 : decode cX12_read 135 = .ok (.iinc 2 1, 3) := by decide +kernel
theorem dX12_read_138 : decode cX12_read 138 = .ok (.goto (-33), 3) := by decide +kernel
theorem dX12_read_141 : decode cX12_read 141 = .ok (.iconst 0, 1) := by decide +kernel
theorem dX12_read_142 : decode cX12_read 142 = .ok (.ireturn, 1) := by decide +kernel
theorem dX12_place_0 : decode cX12_place 0 = .ok (.aload_n 0, 1) := by decide +kernel
theorem dX12_place_1 : decode cX12_place 1 = .ok (.iconst 0, 1) := by decide +kernel
theorem dX12_place_2 : decode cX12_place 2 = .ok (.putfield 223, 3) := by decide +kernel
theorem dX12_place_5 : decode cX12_place 5 = .ok (.aload_n 0, 1) := by decide +kernel
theorem dX12_place_6 : decode cX12_place 6 = .ok (.getfield 98, 3) := by decide +kernel
theorem dX12_place_9 : decode cX12_place 9 = .ok (.ireturn, 1) := by decide +kernel
theorem dX12_count_0 : decode cX12_count 0 = .ok (.aload_n 0, 1) := by decide +kernel
theorem dX12_count_1 : decode cX12_count 1 = .ok (.iconst 0, 1) := by decide +kernel
theorem dX12_count_2 : decode cX12_count 2 = .ok (.putfield 223, 3) := by decide +kernel
theorem dX12_count_5 : decode cX12_count 5 = .ok (.aload_n 0, 1) := by decide +kernel
theorem dX12_count_6 : decode cX12_count 6 = .ok (.getfield 331, 3) := by decide +kernel
theorem dX12_count_9 : decode cX12_count 9 = .ok (.ifCond .ne 7, 3) := by decide +kernel
theorem dX12_count_12 : decode cX12_count 12 = .ok (.iconst (-1), 1) := by decide +kernel
theorem dX12_count_13 : decode cX12_count 13 = .ok (.goto 71, 3) := by decide +kernel
theorem dX12_count_16 : decode cX12_count 16 = .ok (.iload_n 1, 1) := by decide +kernel
theorem dX12_count_17 : decode cX12_count 17 = .ok (.ifCond .ne 15, 3) := by decide +kernel
theorem dX12_count_20 : decode cX12_count 20 = .ok (.aload_n 0, 1) := by decide +kernel
theorem dX12_count_21 : decode cX12_count 21 = .ok (.getfield 114, 3) := by decide +kernel
theorem dX12_count_24 : decode cX12_count 24 = .ok (.aload_n 0, 1) := by decide +kernel
theorem dX12_count_25 : decode cX12_count 25 = .ok (.getfield 328, 3) := by decide +kernel
theorem dX12_count_28 : decode cX12_count 28 = .ok (.iaload, 1) := by decide +kernel
theorem dX12_count_29 : decode cX12_count 29 = .ok (.goto 55, 3) := by decide +kernel
theorem dX12_count_32 : decode cX12_count 32 = .ok (.iload_n 1, 1) := by decide +kernel
theorem dX12_count_33 : decode cX12_count 33 = .ok (.iconst 1, 1) := by decide +kernel
theorem dX12_count_34 : decode cX12_count 34 = .ok (.if_icmp .ne 15, 3) := by decide +kernel
theorem dX12_count_37 : decode cX12_count 37 = .ok (.aload_n 0, 1) := by decide +kernel
theorem dX12_count_38 : decode cX12_count 38 = .ok (.getfield 117, 3) := by decide +kernel
theorem dX12_count_41 : decode cX12_count 41 = .ok (.aload_n 0, 1) := by decide +kernel
theorem dX12_count_42 : decode cX12_count 42 = .ok (.getfield 328, 3) := by decide +kernel
theorem dX12_count_45 : decode cX12_count 45 = .ok (.iaload, 1) := by decide +kernel
theorem dX12_count_46 : decode cX12_count 46 = .ok (.goto 38, 3) := by decide +kernel
theorem dX12_count_49 : decode cX12_count 49 = .ok (.iload_n 1, 1) := by decide +kernel
theorem dX12_count_50 : decode cX12_count 50 = .ok (.iconst 2, 1) := by decide +kernel
theorem dX12_count_51 : decode cX12_count 51 = .ok (.if_icmp .ne 15, 3) := by decide +kernel
theorem dX12_count_54 : decode cX12_count 54 = .ok (.aload_n 0, 1) := by decide +kernel
theorem dX12_count_55 : decode cX12_count 55 = .ok (.getfield 120, 3) := by decide +kernel
theorem dX12_count_58 : decode cX12_count 58 = .ok (.aload_n 0, 1) := by decide +kernel
theorem dX12_count_59 : decode cX12_count 59 = .ok (.getfield 328, 3) := by decide +kernel
theorem dX12_count_62 : decode cX12_count 62 = .ok (.iaload, 1) := by decide +kernel
theorem dX12_count_63 : decode cX12_count 63 = .ok (.goto 21, 3) := by decide +kernel
theorem dX12_count_66 : decode cX12_count 66 = .ok (.iload_n 1, 1) := by decide +kernel
theorem dX12_count_67 : decode cX12_count 67 = .ok (.iconst 3, 1) := by decide +kernel
theorem dX12_count_68 : decode cX12_count 68 = .ok (.if_icmp .ne 15, 3) := by decide +kernel
theorem dX12_count_71 : decode cX12_count 71 = .ok (.aload_n 0, 1) := by decide +kernel
theorem dX12_count_72 : decode cX12_count 72 = .ok (.getfield 123, 3) := by decide +kernel
theorem dX12_count_75 : decode cX12_count 75 = .ok (.aload_n 0, 1) := by decide +kernel
theorem dX12_count_76 : decode cX12_count 76 = .ok (.getfield 328, 3) := by decide +kernel
theorem dX12_count_79 : decode cX12_count 79 = .ok (.iaload, 1) := by decide +kernel
theorem dX12_count_80 : decode cX12_count 80 = .ok (.goto 4, 3) := by decide +kernel
theorem dX12_count_83 : decode cX12_count 83 = .ok (.iconst (-1), 1) := by decide +kernel
theorem dX12_count_84 : decode cX12_count 84 = .ok (.ireturn, 1) := by decide +kernel
theorem dX12_isPlayer_0 : decode cX12_isPlayer 0 = .ok (.aload_n 0, 1) := by decide +kernel
theorem dX12_isPlayer_1 : decode cX12_isPlayer 1 = .ok (.getfield 331, 3) := by decide +kernel
theorem dX12_isPlayer_4 : decode cX12_isPlayer 4 = .ok (.ifCond .eq 17, 3) := by decide +kernel
theorem dX12_isPlayer_7 : decode cX12_isPlayer 7 = .ok (.iload_n 1, 1) := by decide +kernel
theorem dX12_isPlayer_8 : decode cX12_isPlayer 8 = .ok (.iconst 1, 1) := by decide +kernel
theorem dX12_isPlayer_9 : decode cX12_isPlayer 9 = .ok (.if_icmp .eq 8, 3) := by decide +kernel
theorem dX12_isPlayer_12 : decode cX12_isPlayer 12 = .ok (.iload_n 1, 1) := by decide +kernel
theorem dX12_isPlayer_13 : decode cX12_isPlayer 13 = .ok (.iconst 2, 1) := by decide +kernel
theorem dX12_isPlayer_14 : decode cX12_isPlayer 14 = .ok (.if_icmp .ne 7, 3) := by decide +kernel
theorem dX12_isPlayer_17 : decode cX12_isPlayer 17 = .ok (.iconst 1, 1) := by decide +kernel
theorem dX12_isPlayer_18 : decode cX12_isPlayer 18 = .ok (.goto 4, 3) := by decide +kernel
theorem dX12_isPlayer_21 : decode cX12_isPlayer 21 = .ok (.iconst 0, 1) := by decide +kernel
theorem dX12_isPlayer_22 : decode cX12_isPlayer 22 = .ok (.ireturn, 1) := by decide +kernel
set_option maxRecDepth 20000 in
theorem ggX12_sets_X12_isPlayer : GoodIn wsX12_sets wsX12_isPlayer := goodIn_s _ [(6, 2), (14, 58)] rfl (by decide +kernel)
set_option maxRecDepth 20000 in
theorem gX12_sets_X12_isPlayer : GoodIn wsX12_sets (wsV RX12 335 RX12 yX12_isPlayer wsX12_isPlayer) := goodIn_app (goodIn_r _ [2, 3, 4, 5] rfl (by decide +kernel)) ggX12_sets_X12_isPlayer
set_option maxRecDepth 20000 in
theorem ggX12_sets_X12_setsOf : GoodIn wsX12_sets wsX12_setsOf := goodIn_s _ [(11, 61)] rfl (by decide +kernel)
set_option maxRecDepth 20000 in
theorem gX12_sets_X12_setsOf : GoodIn wsX12_sets (wsV RX12 338 RX12 yX12_setsOf wsX12_setsOf) := goodIn_app (goodIn_r _ [8, 9, 10, 5] rfl (by decide +kernel)) ggX12_sets_X12_setsOf
theorem dX12_sets_0 : decode cX12_sets 0 = .ok (.aload_n 0, 1) := by decide +kernel
theorem dX12_sets_1 : decode cX12_sets 1 = .ok (.iconst 0, 1) := by decide +kernel
theorem dX12_sets_2 : decode cX12_sets 2 = .ok (.putfield 223, 3) := by decide +kernel
theorem dX12_sets_5 : decode cX12_sets 5 = .ok (.aload_n 0, 1) := by decide +kernel
theorem dX12_sets_6 : decode cX12_sets 6 = .ok (.iload_n 1, 1) := by decide +kernel
theorem dX12_sets_7 : decode cX12_sets 7 = .ok (.invokevirtual 335, 3) := by decide +kernel
theorem dX12_sets_10 : decode cX12_sets 10 = .ok (.ifCond .eq 11, 3) := by decide +kernel
theorem dX12_sets_13 : decode cX12_sets 13 = .ok (.aload_n 0, 1) := by decide +kernel
theorem dX12_sets_14 : decode cX12_sets 14 = .ok (.iload_n 1, 1) := by decide +kernel
theorem dX12_sets_15 : decode cX12_sets 15 = .ok (.invokevirtual 338, 3) := by decide +kernel
theorem dX12_sets_18 : decode cX12_sets 18 = .ok (.goto 4, 3) := by decide +kernel
theorem dX12_sets_21 : decode cX12_sets 21 = .ok (.iconst (-1), 1) := by decide +kernel
theorem dX12_sets_22 : decode cX12_sets 22 = .ok (.ireturn, 1) := by decide +kernel
theorem dX12_setsOf_0 : decode cX12_setsOf 0 = .ok (.aload_n 0, 1) := by decide +kernel
theorem dX12_setsOf_1 : decode cX12_setsOf 1 = .ok (.getfield 154, 3) := by decide +kernel
theorem dX12_setsOf_4 : decode cX12_setsOf 4 = .ok (.iconst 2, 1) := by decide +kernel
theorem dX12_setsOf_5 : decode cX12_setsOf 5 = .ok (.aload_n 0, 1) := by decide +kernel
theorem dX12_setsOf_6 : decode cX12_setsOf 6 = .ok (.getfield 328, 3) := by decide +kernel
theorem dX12_setsOf_9 : decode cX12_setsOf 9 = .ok (.imul, 1) := by decide +kernel
theorem dX12_setsOf_10 : decode cX12_setsOf 10 = .ok (.iload_n 1, 1) := by decide +kernel
theorem dX12_setsOf_11 : decode cX12_setsOf 11 = .ok (.iadd, 1) := by decide +kernel
theorem dX12_setsOf_12 : decode cX12_setsOf 12 = .ok (.iconst 1, 1) := by decide +kernel
theorem dX12_setsOf_13 : decode cX12_setsOf 13 = .ok (.isub, 1) := by decide +kernel
theorem dX12_setsOf_14 : decode cX12_setsOf 14 = .ok (.iaload, 1) := by decide +kernel
theorem dX12_setsOf_15 : decode cX12_setsOf 15 = .ok (.ireturn, 1) := by decide +kernel
set_option maxRecDepth 20000 in
theorem ggX12_isSet_X12_isPlayer : GoodIn wsX12_isSet wsX12_isPlayer := goodIn_s _ [(5, 2), (13, 58)] rfl (by decide +kernel)
set_option maxRecDepth 20000 in
theorem gX12_isSet_X12_isPlayer : GoodIn wsX12_isSet (wsV RX12 335 RX12 yX12_isPlayer wsX12_isPlayer) := goodIn_app (goodIn_r _ [1, 2, 3, 4] rfl (by decide +kernel)) ggX12_isSet_X12_isPlayer
set_option maxRecDepth 20000 in
theorem ggX12_isSet_X12_setsOf : GoodIn wsX12_isSet wsX12_setsOf := goodIn_s _ [(10, 61)] rfl (by decide +kernel)
set_option maxRecDepth 20000 in
theorem gX12_isSet_X12_setsOf : GoodIn wsX12_isSet (wsV RX12 338 RX12 yX12_setsOf wsX12_setsOf) := goodIn_app (goodIn_r _ [7, 8, 9, 4] rfl (by decide +kernel)) ggX12_isSet_X12_setsOf
theorem dX12_isSet_0 : decode cX12_isSet 0 = .ok (.aload_n 0, 1) := by decide +kernel
theorem dX12_isSet_1 : decode cX12_isSet 1 = .ok (.iload_n 1, 1) := by decide +kernel
theorem dX12_isSet_2 : decode cX12_isSet 2 = .ok (.invokevirtual 335, 3) := by decide +kernel
theorem dX12_isSet_5 : decode cX12_isSet 5 = .ok (.ifCond .eq 20, 3) := by decide +kernel
theorem dX12_isSet_8 : decode cX12_isSet 8 = .ok (.iload_n 2, 1) := by decide +kernel
theorem dX12_isSet_9 : decode cX12_isSet 9 = .ok (.ifCond .lt 16, 3) := by decide +kernel
theorem dX12_isSet_12 : decode cX12_isSet 12 = .ok (.iload_n 2, 1) := by decide +kernel
theorem dX12_isSet_13 : decode cX12_isSet 13 = .ok (.aload_n 0, 1) := by decide +kernel
theorem dX12_isSet_14 : decode cX12_isSet 14 = .ok (.iload_n 1, 1) := by decide +kernel
theorem dX12_isSet_15 : decode cX12_isSet 15 = .ok (.invokevirtual 338, 3) := by decide +kernel
theorem dX12_isSet_18 : decode cX12_isSet 18 = .ok (.if_icmp .ge 7, 3) := by decide +kernel
theorem dX12_isSet_21 : decode cX12_isSet 21 = .ok (.iconst 1, 1) := by decide +kernel
theorem dX12_isSet_22 : decode cX12_isSet 22 = .ok (.goto 4, 3) := by decide +kernel
theorem dX12_isSet_25 : decode cX12_isSet 25 = .ok (.iconst 0, 1) := by decide +kernel
theorem dX12_isSet_26 : decode cX12_isSet 26 = .ok (.ireturn, 1) := by decide +kernel
set_option maxRecDepth 20000 in
theorem ggX12_set_X12_isSet : GoodIn wsX12_set wsX12_isSet := goodIn_s _ [(10, 4), (9, 1), (14, 7), (2, 1), (21, 58)] rfl (by decide +kernel)
set_option maxRecDepth 20000 in
theorem gX12_set_X12_isSet : GoodIn wsX12_set (wsV RX12 341 RX12 yX12_isSet wsX12_isSet) := goodIn_app (goodIn_r _ [6, 7, 8, 9] rfl (by decide +kernel)) ggX12_set_X12_isSet
theorem dX12_set_0 : decode cX12_set 0 = .ok (.aload_n 0, 1) := by decide +kernel
theorem dX12_set_1 : decode cX12_set 1 = .ok (.iconst 0, 1) := by decide +kernel
theorem dX12_set_2 : decode cX12_set 2 = .ok (.putfield 223, 3) := by decide +kernel
theorem dX12_set_5 : decode cX12_set 5 = .ok (.bipush 20, 2) := by decide +kernel
theorem dX12_set_7 : decode cX12_set 7 = .ok (.aload_n 0, 1) := by decide +kernel
theorem dX12_set_8 : decode cX12_set 8 = .ok (.getfield 328, 3) := by decide +kernel
theorem dX12_set_11 : decode cX12_set 11 = .ok (.imul, 1) := by decide +kernel
theorem dX12_set_12 : decode cX12_set 12 = .ok (.bipush 10, 2) := by decide +kernel
theorem dX12_set_14 : decode cX12_set 14 = .ok (.iload_n 1, 1) := by decide +kernel
theorem dX12_set_15 : decode cX12_set 15 = .ok (.iconst 1, 1) := by decide +kernel
theorem dX12_set_16 : decode cX12_set 16 = .ok (.isub, 1) := by decide +kernel
theorem dX12_set_17 : decode cX12_set 17 = .ok (.imul, 1) := by decide +kernel
theorem dX12_set_18 : decode cX12_set 18 = .ok (.iadd, 1) := by decide +kernel
theorem dX12_set_19 : decode cX12_set 19 = .ok (.iload_n 2, 1) := by decide +kernel
theorem dX12_set_20 : decode cX12_set 20 = .ok (.iadd, 1) := by decide +kernel
theorem dX12_set_21 : decode cX12_set 21 = .ok (.istore 4, 2) := by decide +kernel
theorem dX12_set_23 : decode cX12_set 23 = .ok (.aload_n 0, 1) := by decide +kernel
theorem dX12_set_24 : decode cX12_set 24 = .ok (.iload_n 1, 1) := by decide +kernel
theorem dX12_set_25 : decode cX12_set 25 = .ok (.iload_n 2, 1) := by decide +kernel
theorem dX12_set_26 : decode cX12_set 26 = .ok (.invokevirtual 341, 3) := by decide +kernel
theorem dX12_set_29 : decode cX12_set 29 = .ok (.ifCond .ne 7, 3) := by decide +kernel
theorem dX12_set_32 : decode cX12_set 32 = .ok (.iconst (-1), 1) := by decide +kernel
theorem dX12_set_33 : decode cX12_set 33 = .ok (.goto 48, 3) := by decide +kernel
theorem dX12_set_36 : decode cX12_set 36 = .ok (.iload_n 3, 1) := by decide +kernel
theorem dX12_set_37 : decode cX12_set 37 = .ok (.ifCond .ne 13, 3) := by decide +kernel
theorem dX12_set_40 : decode cX12_set 40 = .ok (.aload_n 0, 1) := by decide +kernel
theorem dX12_set_41 : decode cX12_set 41 = .ok (.getfield 160, 3) := by decide +kernel
theorem dX12_set_44 : decode cX12_set 44 = .ok (.iload 4, 2) := by decide +kernel
theorem dX12_set_46 : decode cX12_set 46 = .ok (.iaload, 1) := by decide +kernel
theorem dX12_set_47 : decode cX12_set 47 = .ok (.goto 34, 3) := by decide +kernel
theorem dX12_set_50 : decode cX12_set 50 = .ok (.iload_n 3, 1) := by decide +kernel
theorem dX12_set_51 : decode cX12_set 51 = .ok (.iconst 1, 1) := by decide +kernel
theorem dX12_set_52 : decode cX12_set 52 = .ok (.if_icmp .ne 13, 3) := by decide +kernel
theorem dX12_set_55 : decode cX12_set 55 = .ok (.aload_n 0, 1) := by decide +kernel
theorem dX12_set_56 : decode cX12_set 56 = .ok (.getfield 157, 3) := by decide +kernel
theorem dX12_set_59 : decode cX12_set 59 = .ok (.iload 4, 2) := by decide +kernel
theorem dX12_set_61 : decode cX12_set 61 = .ok (.iaload, 1) := by decide +kernel
theorem dX12_set_62 : decode cX12_set 62 = .ok (.goto 19, 3) := by decide +kernel
theorem dX12_set_65 : decode cX12_set 65 = .ok (.iload_n 3, 1) := by decide +kernel
theorem dX12_set_66 : decode cX12_set 66 = .ok (.iconst 2, 1) := by decide +kernel
theorem dX12_set_67 : decode cX12_set 67 = .ok (.if_icmp .ne 13, 3) := by decide +kernel
theorem dX12_set_70 : decode cX12_set 70 = .ok (.aload_n 0, 1) := by decide +kernel
theorem dX12_set_71 : decode cX12_set 71 = .ok (.getfield 163, 3) := by decide +kernel
theorem dX12_set_74 : decode cX12_set 74 = .ok (.iload 4, 2) := by decide +kernel
theorem dX12_set_76 : decode cX12_set 76 = .ok (.iaload, 1) := by decide +kernel
theorem dX12_set_77 : decode cX12_set 77 = .ok (.goto 4, 3) := by decide +kernel
theorem dX12_set_80 : decode cX12_set 80 = .ok (.iconst (-1), 1) := by decide +kernel
theorem dX12_set_81 : decode cX12_set 81 = .ok (.ireturn, 1) := by decide +kernel
set_option maxRecDepth 20000 in
theorem ggX12_plans_X12_isPlayer : GoodIn wsX12_plans wsX12_isPlayer := goodIn_s _ [(7, 2), (15, 58)] rfl (by decide +kernel)
set_option maxRecDepth 20000 in
theorem gX12_plans_X12_isPlayer : GoodIn wsX12_plans (wsV RX12 335 RX12 yX12_isPlayer wsX12_isPlayer) := goodIn_app (goodIn_r _ [3, 4, 5, 6] rfl (by decide +kernel)) ggX12_plans_X12_isPlayer
set_option maxRecDepth 20000 in
theorem ggX12_plans_X12_plansOf : GoodIn wsX12_plans wsX12_plansOf := goodIn_s _ [(12, 61)] rfl (by decide +kernel)
set_option maxRecDepth 20000 in
theorem gX12_plans_X12_plansOf : GoodIn wsX12_plans (wsV RX12 313 RX12 yX12_plansOf wsX12_plansOf) := goodIn_app (goodIn_r _ [9, 10, 11, 6] rfl (by decide +kernel)) ggX12_plans_X12_plansOf
theorem dX12_plans_0 : decode cX12_plans 0 = .ok (.aload_n 0, 1) := by decide +kernel
theorem dX12_plans_1 : decode cX12_plans 1 = .ok (.iconst 0, 1) := by decide +kernel
theorem dX12_plans_2 : decode cX12_plans 2 = .ok (.putfield 223, 3) := by decide +kernel
theorem dX12_plans_5 : decode cX12_plans 5 = .ok (.aload_n 0, 1) := by decide +kernel
theorem dX12_plans_6 : decode cX12_plans 6 = .ok (.iload_n 1, 1) := by decide +kernel
theorem dX12_plans_7 : decode cX12_plans 7 = .ok (.invokevirtual 335, 3) := by decide +kernel
theorem dX12_plans_10 : decode cX12_plans 10 = .ok (.ifCond .eq 17, 3) := by decide +kernel
theorem dX12_plans_13 : decode cX12_plans 13 = .ok (.aload_n 0, 1) := by decide +kernel
theorem dX12_plans_14 : decode cX12_plans 14 = .ok (.aload_n 0, 1) := by decide +kernel
theorem dX12_plans_15 : decode cX12_plans 15 = .ok (.getfield 328, 3) := by decide +kernel
theorem dX12_plans_18 : decode cX12_plans 18 = .ok (.iload_n 1, 1) := by decide +kernel
theorem dX12_plans_19 : decode cX12_plans 19 = .ok (.iconst 1, 1) := by decide +kernel
theorem dX12_plans_20 : decode cX12_plans 20 = .ok (.isub, 1) := by decide +kernel
theorem dX12_plans_21 : decode cX12_plans 21 = .ok (.invokevirtual 313, 3) := by decide +kernel
theorem dX12_plans_24 : decode cX12_plans 24 = .ok (.goto 4, 3) := by decide +kernel
theorem dX12_plans_27 : decode cX12_plans 27 = .ok (.iconst (-1), 1) := by decide +kernel
theorem dX12_plans_28 : decode cX12_plans 28 = .ok (.ireturn, 1) := by decide +kernel
set_option maxRecDepth 20000 in
theorem ggX12_tell_X12_isSet : GoodIn wsX12_tell wsX12_isSet := goodIn_s _ [(8, 4), (7, 1), (12, 8), (25, 58)] rfl (by decide +kernel)
set_option maxRecDepth 20000 in
theorem gX12_tell_X12_isSet : GoodIn wsX12_tell (wsV RX12 341 RX12 yX12_isSet wsX12_isSet) := goodIn_app (goodIn_r _ [4, 5, 6, 7] rfl (by decide +kernel)) ggX12_tell_X12_isSet
set_option maxRecDepth 20000 in
theorem ggX12_tell_X12_movesOf : GoodIn wsX12_tell wsX12_movesOf := goodIn_s _ [(23, 2), (19, 1), (25, 58)] rfl (by decide +kernel)
set_option maxRecDepth 20000 in
theorem gX12_tell_X12_movesOf : GoodIn wsX12_tell (wsV RX12 345 RX12 yX12_movesOf wsX12_movesOf) := goodIn_app (goodIn_r _ [20, 21, 22, 7] rfl (by decide +kernel)) ggX12_tell_X12_movesOf
theorem dX12_tell_0 : decode cX12_tell 0 = .ok (.aload_n 0, 1) := by decide +kernel
theorem dX12_tell_1 : decode cX12_tell 1 = .ok (.iload_n 1, 1) := by decide +kernel
theorem dX12_tell_2 : decode cX12_tell 2 = .ok (.iload_n 2, 1) := by decide +kernel
theorem dX12_tell_3 : decode cX12_tell 3 = .ok (.invokevirtual 341, 3) := by decide +kernel
theorem dX12_tell_6 : decode cX12_tell 6 = .ok (.ifCond .eq 27, 3) := by decide +kernel
theorem dX12_tell_9 : decode cX12_tell 9 = .ok (.iload_n 3, 1) := by decide +kernel
theorem dX12_tell_10 : decode cX12_tell 10 = .ok (.ifCond .lt 23, 3) := by decide +kernel
theorem dX12_tell_13 : decode cX12_tell 13 = .ok (.iload_n 3, 1) := by decide +kernel
theorem dX12_tell_14 : decode cX12_tell 14 = .ok (.aload_n 0, 1) := by decide +kernel
theorem dX12_tell_15 : decode cX12_tell 15 = .ok (.bipush 10, 2) := by decide +kernel
theorem dX12_tell_17 : decode cX12_tell 17 = .ok (.iload_n 1, 1) := by decide +kernel
theorem dX12_tell_18 : decode cX12_tell 18 = .ok (.iconst 1, 1) := by decide +kernel
theorem dX12_tell_19 : decode cX12_tell 19 = .ok (.isub, 1) := by decide +kernel
theorem dX12_tell_20 : decode cX12_tell 20 = .ok (.imul, 1) := by decide +kernel
theorem dX12_tell_21 : decode cX12_tell 21 = .ok (.iload_n 2, 1) := by decide +kernel
theorem dX12_tell_22 : decode cX12_tell 22 = .ok (.iadd, 1) := by decide +kernel
theorem dX12_tell_23 : decode cX12_tell 23 = .ok (.invokevirtual 345, 3) := by decide +kernel
theorem dX12_tell_26 : decode cX12_tell 26 = .ok (.if_icmp .ge 7, 3) := by decide +kernel
theorem dX12_tell_29 : decode cX12_tell 29 = .ok (.iconst 1, 1) := by decide +kernel
theorem dX12_tell_30 : decode cX12_tell 30 = .ok (.goto 4, 3) := by decide +kernel
theorem dX12_tell_33 : decode cX12_tell 33 = .ok (.iconst 0, 1) := by decide +kernel
theorem dX12_tell_34 : decode cX12_tell 34 = .ok (.istore 6, 2) := by decide +kernel
theorem dX12_tell_36 : decode cX12_tell 36 = .ok (.aload_n 0, 1) := by decide +kernel
theorem dX12_tell_37 : decode cX12_tell 37 = .ok (.iload 6, 2) := by decide +kernel
theorem dX12_tell_39 : decode cX12_tell 39 = .ok (.ifCond .ne 7, 3) := by decide +kernel
theorem dX12_tell_42 : decode cX12_tell 42 = .ok (.iconst 1, 1) := by decide +kernel
theorem dX12_tell_43 : decode cX12_tell 43 = .ok (.goto 34, 3) := by decide +kernel
theorem dX12_tell_46 : decode cX12_tell 46 = .ok (.iload 5, 2) := by decide +kernel
theorem dX12_tell_48 : decode cX12_tell 48 = .ok (.iconst 1, 1) := by decide +kernel
theorem dX12_tell_49 : decode cX12_tell 49 = .ok (.if_icmp .lt 23, 3) := by decide +kernel
theorem dX12_tell_52 : decode cX12_tell 52 = .ok (.iload 5, 2) := by decide +kernel
theorem dX12_tell_54 : decode cX12_tell 54 = .ok (.sipush 9999, 3) := by decide +kernel
theorem dX12_tell_57 : decode cX12_tell 57 = .ok (.if_icmp .gt 15, 3) := by decide +kernel
theorem dX12_tell_60 : decode cX12_tell 60 = .ok (.iload 4, 2) := by decide +kernel
theorem dX12_tell_62 : decode cX12_tell 62 = .ok (.ifCond .lt 10, 3) := by decide +kernel
theorem dX12_tell_65 : decode cX12_tell 65 = .ok (.iload 4, 2) := by decide +kernel
theorem dX12_tell_67 : decode cX12_tell 67 = .ok (.iload 5, 2) := by decide +kernel
theorem dX12_tell_69 : decode cX12_tell 69 = .ok (.if_icmp .le 7, 3) := by decide +kernel
theorem dX12_tell_72 : decode cX12_tell 72 = .ok (.iconst 2, 1) := by decide +kernel
theorem dX12_tell_73 : decode cX12_tell 73 = .ok (.goto 4, 3) := by decide +kernel
theorem dX12_tell_76 : decode cX12_tell 76 = .ok (.iconst 0, 1) := by decide +kernel
theorem dX12_tell_77 : decode cX12_tell 77 = .ok (.putfield 223, 3) := by decide +kernel
theorem dX12_tell_80 : decode cX12_tell 80 = .ok (.aload_n 0, 1) := by decide +kernel
theorem dX12_tell_81 : decode cX12_tell 81 = .ok (.getfield 223, 3) := by decide +kernel
theorem dX12_tell_84 : decode cX12_tell 84 = .ok (.ifCond .ne 35, 3) := by decide +kernel
theorem dX12_tell_87 : decode cX12_tell 87 = .ok (.iconst 4, 1) := by decide +kernel
theorem dX12_tell_88 : decode cX12_tell 88 = .ok (.bipush 10, 2) := by decide +kernel
theorem dX12_tell_90 : decode cX12_tell 90 = .ok (.iload_n 1, 1) := by decide +kernel
theorem dX12_tell_91 : decode cX12_tell 91 = .ok (.iconst 1, 1) := by decide +kernel
theorem dX12_tell_92 : decode cX12_tell 92 = .ok (.isub, 1) := by decide +kernel
theorem dX12_tell_93 : decode cX12_tell 93 = .ok (.imul, 1) := by decide +kernel
theorem dX12_tell_94 : decode cX12_tell 94 = .ok (.iload_n 2, 1) := by decide +kernel
theorem dX12_tell_95 : decode cX12_tell 95 = .ok (.iadd, 1) := by decide +kernel
theorem dX12_tell_96 : decode cX12_tell 96 = .ok (.imul, 1) := by decide +kernel
theorem dX12_tell_97 : decode cX12_tell 97 = .ok (.iload_n 3, 1) := by decide +kernel
theorem dX12_tell_98 : decode cX12_tell 98 = .ok (.iadd, 1) := by decide +kernel
theorem dX12_tell_99 : decode cX12_tell 99 = .ok (.istore 7, 2) := by decide +kernel
theorem dX12_tell_101 : decode cX12_tell 101 = .ok (.aload_n 0, 1) := by decide +kernel
theorem dX12_tell_102 : decode cX12_tell 102 = .ok (.getfield 199, 3) := by decide +kernel
theorem dX12_tell_105 : decode cX12_tell 105 = .ok (.iload 7, 2) := by decide +kernel
theorem dX12_tell_107 : decode cX12_tell 107 = .ok (.iload 4, 2) := by decide +kernel
theorem dX12_tell_109 : decode cX12_tell 109 = .ok (.iastore, 1) := by decide +kernel
theorem dX12_tell_110 : decode cX12_tell 110 = .ok (.aload_n 0, 1) := by decide +kernel
theorem dX12_tell_111 : decode cX12_tell 111 = .ok (.getfield 202, 3) := by decide +kernel
theorem dX12_tell_114 : decode cX12_tell 114 = .ok (.iload 7, 2) := by decide +kernel
theorem dX12_tell_116 : decode cX12_tell 116 = .ok (.iload 5, 2) := by decide +kernel
theorem dX12_tell_118 : decode cX12_tell 118 = .ok (.iastore, 1) := by decide +kernel
theorem dX12_tell_119 : decode cX12_tell 119 = .ok (.return_, 1) := by decide +kernel
theorem dX12_movesOf_0 : decode cX12_movesOf 0 = .ok (.aload_n 0, 1) := by decide +kernel
theorem dX12_movesOf_1 : decode cX12_movesOf 1 = .ok (.getfield 160, 3) := by decide +kernel
theorem dX12_movesOf_4 : decode cX12_movesOf 4 = .ok (.bipush 20, 2) := by decide +kernel
theorem dX12_movesOf_6 : decode cX12_movesOf 6 = .ok (.aload_n 0, 1) := by decide +kernel
theorem dX12_movesOf_7 : decode cX12_movesOf 7 = .ok (.getfield 328, 3) := by decide +kernel
theorem dX12_movesOf_10 : decode cX12_movesOf 10 = .ok (.imul, 1) := by decide +kernel
theorem dX12_movesOf_11 : decode cX12_movesOf 11 = .ok (.iload_n 1, 1) := by decide +kernel
theorem dX12_movesOf_12 : decode cX12_movesOf 12 = .ok (.iadd, 1) := by decide +kernel
theorem dX12_movesOf_13 : decode cX12_movesOf 13 = .ok (.iaload, 1) := by decide +kernel
theorem dX12_movesOf_14 : decode cX12_movesOf 14 = .ok (.ireturn, 1) := by decide +kernel
set_option maxRecDepth 20000 in
theorem ggX12_isGood_X12_setsOf : GoodIn wsX12_isGood wsX12_setsOf := goodIn_s _ [(7, 3), (15, 58)] rfl (by decide +kernel)
set_option maxRecDepth 20000 in
theorem gX12_isGood_X12_setsOf : GoodIn wsX12_isGood (wsV RX12 338 RX12 yX12_setsOf wsX12_setsOf) := goodIn_app (goodIn_r _ [3, 4, 5, 6] rfl (by decide +kernel)) ggX12_isGood_X12_setsOf
set_option maxRecDepth 20000 in
theorem ggX12_isGood_X12_movesOf : GoodIn wsX12_isGood wsX12_movesOf := goodIn_s _ [(13, 2), (9, 1), (15, 58)] rfl (by decide +kernel)
set_option maxRecDepth 20000 in
theorem gX12_isGood_X12_movesOf : GoodIn wsX12_isGood (wsV RX12 345 RX12 yX12_movesOf wsX12_movesOf) := goodIn_app (goodIn_r _ [10, 11, 12, 6] rfl (by decide +kernel)) ggX12_isGood_X12_movesOf
theorem dX12_isGood_0 : decode cX12_isGood 0 = .ok (.iconst 1, 1) := by decide +kernel
theorem dX12_isGood_1 : decode cX12_isGood 1 = .ok (.istore_n 2, 1) := by decide +kernel
theorem dX12_isGood_2 : decode cX12_isGood 2 = .ok (.bipush 10, 2) := by decide +kernel
theorem dX12_isGood_4 : decode cX12_isGood 4 = .ok (.iload_n 1, 1) := by decide +kernel
theorem dX12_isGood_5 : decode cX12_isGood 5 = .ok (.iconst 1, 1) := by decide +kernel
theorem dX12_isGood_6 : decode cX12_isGood 6 = .ok (.isub, 1) := by decide +kernel
theorem dX12_isGood_7 : decode cX12_isGood 7 = .ok (.imul, 1) := by decide +kernel
theorem dX12_isGood_8 : decode cX12_isGood 8 = .ok (.istore_n 3, 1) := by decide +kernel
theorem dX12_isGood_9 : decode cX12_isGood 9 = .ok (.iload_n 3, 1) := by decide +kernel
theorem dX12_isGood_10 : decode cX12_isGood 10 = .ok (.bipush 10, 2) := by decide +kernel
theorem dX12_isGood_12 : decode cX12_isGood 12 = .ok (.iload_n 1, 1) := by decide +kernel
theorem dX12_isGood_13 : decode cX12_isGood 13 = .ok (.iconst 1, 1) := by decide +kernel
theorem dX12_isGood_14 : decode cX12_isGood 14 = .ok (.isub, 1) := by decide +kernel
theorem dX12_isGood_15 : decode cX12_isGood 15 = .ok (.imul, 1) := by decide +kernel
theorem dX12_isGood_16 : decode cX12_isGood 16 = .ok (.aload_n 0, 1) := by decide +kernel
theorem dX12_isGood_17 : decode cX12_isGood 17 = .ok (.iload_n 1, 1) := by decide +kernel
theorem dX12_isGood_18 : decode cX12_isGood 18 = .ok (.invokevirtual 338, 3) := by decide +kernel
theorem dX12_isGood_21 : decode cX12_isGood 21 = .ok (.iadd, 1) := by decide +kernel
theorem dX12_isGood_22 : decode cX12_isGood 22 = .ok (.if_icmp .ge 96, 3) := by decide +kernel
theorem dX12_isGood_25 : decode cX12_isGood 25 = .ok (.lconst 0, 1) := by decide +kernel
theorem dX12_isGood_26 : decode cX12_isGood 26 = .ok (.lstore 4, 2) := by decide +kernel
theorem dX12_isGood_28 : decode cX12_isGood 28 = .ok (.lconst 1, 1) := by decide +kernel
theorem dX12_isGood_29 : decode cX12_isGood 29 = .ok (.lstore 6, 2) := by decide +kernel
theorem dX12_isGood_31 : decode cX12_isGood 31 = .ok (.iconst 4, 1) := by decide +kernel
theorem dX12_isGood_32 : decode cX12_isGood 32 = .ok (.iload_n 3, 1) := by decide +kernel
theorem dX12_isGood_33 : decode cX12_isGood 33 = .ok (.imul, 1) := by decide +kernel
theorem dX12_isGood_34 : decode cX12_isGood 34 = .ok (.istore 8, 2) := by decide +kernel
theorem dX12_isGood_36 : decode cX12_isGood 36 = .ok (.iload 8, 2) := by decide +kernel
theorem dX12_isGood_38 : decode cX12_isGood 38 = .ok (.iconst 4, 1) := by decide +kernel
theorem dX12_isGood_39 : decode cX12_isGood 39 = .ok (.iload_n 3, 1) := by decide +kernel
theorem dX12_isGood_40 : decode cX12_isGood 40 = .ok (.imul, 1) := by decide +kernel
theorem dX12_isGood_41 : decode cX12_isGood 41 = .ok (.aload_n 0, 1) := by decide +kernel
theorem dX12_isGood_42 : decode cX12_isGood 42 = .ok (.iload_n 3, 1) := by decide +kernel
theorem dX12_isGood_43 : decode cX12_isGood 43 = .ok (.invokevirtual 345, 3) := by decide +kernel
theorem dX12_isGood_46 : decode cX12_isGood 46 = .ok (.iadd, 1) := by decide +kernel
theorem dX12_isGood_47 : decode cX12_isGood 47 = .ok (.if_icmp .ge 47, 3) := by decide +kernel
