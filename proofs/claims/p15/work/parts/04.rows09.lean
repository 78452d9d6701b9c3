set_option maxRecDepth 20000 in
theorem gX8_leaving_X8_leavesBefore : GoodIn wsX8_leaving (wsV RX8 177 RX8 yX8_leavesBefore wsX8_leavesBefore) := goodIn_app (goodIn_r _ [15, 16, 17, 5] rfl (by decide +kernel)) ggX8_leaving_X8_leavesBefore
theorem dX8_leaving_0 : decode cX8_leaving 0 = .ok (.iconst (-1), 1) := by decide +kernel
theorem dX8_leaving_1 : decode cX8_leaving 1 = .ok (.istore_n 2, 1) := by decide +kernel
theorem dX8_leaving_2 : decode cX8_leaving 2 = .ok (.iconst 0, 1) := by decide +kernel
theorem dX8_leaving_3 : decode cX8_leaving 3 = .ok (.istore_n 3, 1) := by decide +kernel
theorem dX8_leaving_4 : decode cX8_leaving 4 = .ok (.iload_n 3, 1) := by decide +kernel
theorem dX8_leaving_5 : decode cX8_leaving 5 = .ok (.aload_n 0, 1) := by decide +kernel
theorem dX8_leaving_6 : decode cX8_leaving 6 = .ok (.getfield 28, 3) := by decide +kernel
theorem dX8_leaving_9 : decode cX8_leaving 9 = .ok (.if_icmp .ge 38, 3) := by decide +kernel
theorem dX8_leaving_12 : decode cX8_leaving 12 = .ok (.aload_n 0, 1) := by decide +kernel
theorem dX8_leaving_13 : decode cX8_leaving 13 = .ok (.iload_n 3, 1) := by decide +kernel
theorem dX8_leaving_14 : decode cX8_leaving 14 = .ok (.iload_n 1, 1) := by decide +kernel
theorem dX8_leaving_15 : decode cX8_leaving 15 = .ok (.invokevirtual 90, 3) := by decide +kernel
theorem dX8_leaving_18 : decode cX8_leaving 18 = .ok (.invokevirtual 174, 3) := by decide +kernel
theorem dX8_leaving_21 : decode cX8_leaving 21 = .ok (.ifCond .le 20, 3) := by decide +kernel
theorem dX8_leaving_24 : decode cX8_leaving 24 = .ok (.iload_n 2, 1) := by decide +kernel
theorem dX8_leaving_25 : decode cX8_leaving 25 = .ok (.iconst (-1), 1) := by decide +kernel
theorem dX8_leaving_26 : decode cX8_leaving 26 = .ok (.if_icmp .eq 13, 3) := by decide +kernel
theorem dX8_leaving_29 : decode cX8_leaving 29 = .ok (.aload_n 0, 1) := by decide +kernel
theorem dX8_leaving_30 : decode cX8_leaving 30 = .ok (.iload_n 3, 1) := by decide +kernel
theorem dX8_leaving_31 : decode cX8_leaving 31 = .ok (.iload_n 2, 1) := by decide +kernel
theorem dX8_leaving_32 : decode cX8_leaving 32 = .ok (.iload_n 1, 1) := by decide +kernel
theorem dX8_leaving_33 : decode cX8_leaving 33 = .ok (.invokevirtual 177, 3) := by decide +kernel
theorem dX8_leaving_36 : decode cX8_leaving 36 = .ok (.ifCond .eq 5, 3) := by decide +kernel
theorem dX8_leaving_39 : decode cX8_leaving 39 = .ok (.iload_n 3, 1) := by decide +kernel
theorem dX8_leaving_40 : decode cX8_leaving 40 = .ok (.istore_n 2, 1) := by decide +kernel
theorem dX8_leaving_41 : decode cX8_leaving 41 = .ok (.iinc 3 1, 3) := by decide +kernel
theorem dX8_leaving_44 : decode cX8_leaving 44 = .ok (.goto (-40), 3) := by decide +kernel
theorem dX8_leaving_47 : decode cX8_leaving 47 = .ok (.iload_n 2, 1) := by decide +kernel
theorem dX8_leaving_48 : decode cX8_leaving 48 = .ok (.ireturn, 1) := by decide +kernel
set_option maxRecDepth 20000 in
theorem ggX8_leavesBefore_X8_cell : GoodIn wsX8_leavesBefore wsX8_cell := goodIn_s _ [(9, 2), (48, 13)] rfl (by decide +kernel)
set_option maxRecDepth 20000 in
theorem gX8_leavesBefore_X8_cell : GoodIn wsX8_leavesBefore (wsV RX8 90 RX8 yX8_cell wsX8_cell) := goodIn_app (goodIn_r _ [5, 6, 7, 8] rfl (by decide +kernel)) ggX8_leavesBefore_X8_cell
set_option maxRecDepth 20000 in
theorem ggX8_leavesBefore_X0_putProduct : GoodIn wsX8_leavesBefore wsX0_putProduct := goodIn_s _ [(15, 11), (14, 1), (26, 10), (61, 3)] rfl (by decide +kernel)
set_option maxRecDepth 20000 in
theorem gX8_leavesBefore_X0_putProduct : GoodIn wsX8_leavesBefore (wsV RX8 86 RX0 yX0_putProduct wsX0_putProduct) := goodIn_app (goodIn_r _ [11, 12, 13, 14] rfl (by decide +kernel)) ggX8_leavesBefore_X0_putProduct
set_option maxRecDepth 20000 in
theorem ggX8_leavesBefore_X0_order : GoodIn wsX8_leavesBefore wsX0_order := goodIn_s _ [(39, 1), (22, 1), (40, 3), (14, 1), (43, 1), (16, 1), (44, 4), (17, 1), (23, 5), (61, 3)] rfl (by decide +kernel)
set_option maxRecDepth 20000 in
theorem gX8_leavesBefore_X0_order : GoodIn wsX8_leavesBefore (wsV RX8 181 RX0 yX0_order wsX0_order) := goodIn_app (goodIn_r _ [36, 37, 38, 14] rfl (by decide +kernel)) ggX8_leavesBefore_X0_order
theorem dX8_leavesBefore_0 : decode cX8_leavesBefore 0 = .ok (.aload_n 0, 1) := by decide +kernel
theorem dX8_leavesBefore_1 : decode cX8_leavesBefore 1 = .ok (.getfield 52, 3) := by decide +kernel
theorem dX8_leavesBefore_4 : decode cX8_leavesBefore 4 = .ok (.aload_n 0, 1) := by decide +kernel
theorem dX8_leavesBefore_5 : decode cX8_leavesBefore 5 = .ok (.iload_n 1, 1) := by decide +kernel
theorem dX8_leavesBefore_6 : decode cX8_leavesBefore 6 = .ok (.aload_n 0, 1) := by decide +kernel
theorem dX8_leavesBefore_7 : decode cX8_leavesBefore 7 = .ok (.getfield 32, 3) := by decide +kernel
theorem dX8_leavesBefore_10 : decode cX8_leavesBefore 10 = .ok (.invokevirtual 90, 3) := by decide +kernel
theorem dX8_leavesBefore_13 : decode cX8_leavesBefore 13 = .ok (.aload_n 0, 1) := by decide +kernel
theorem dX8_leavesBefore_14 : decode cX8_leavesBefore 14 = .ok (.iload_n 2, 1) := by decide +kernel
theorem dX8_leavesBefore_15 : decode cX8_leavesBefore 15 = .ok (.iload_n 3, 1) := by decide +kernel
theorem dX8_leavesBefore_16 : decode cX8_leavesBefore 16 = .ok (.invokevirtual 90, 3) := by decide +kernel
theorem dX8_leavesBefore_19 : decode cX8_leavesBefore 19 = .ok (.invokevirtual 86, 3) := by decide +kernel
theorem dX8_leavesBefore_22 : decode cX8_leavesBefore 22 = .ok (.aload_n 0, 1) := by decide +kernel
theorem dX8_leavesBefore_23 : decode cX8_leavesBefore 23 = .ok (.getfield 55, 3) := by decide +kernel
theorem dX8_leavesBefore_26 : decode cX8_leavesBefore 26 = .ok (.aload_n 0, 1) := by decide +kernel
theorem dX8_leavesBefore_27 : decode cX8_leavesBefore 27 = .ok (.iload_n 2, 1) := by decide +kernel
theorem dX8_leavesBefore_28 : decode cX8_leavesBefore 28 = .ok (.aload_n 0, 1) := by decide +kernel
theorem dX8_leavesBefore_29 : decode cX8_leavesBefore 29 = .ok (.getfield 32, 3) := by decide +kernel
theorem dX8_leavesBefore_32 : decode cX8_leavesBefore 32 = .ok (.invokevirtual 90, 3) := by decide +kernel
theorem dX8_leavesBefore_35 : decode cX8_leavesBefore 35 = .ok (.aload_n 0, 1) := by decide +kernel
theorem dX8_leavesBefore_36 : decode cX8_leavesBefore 36 = .ok (.iload_n 1, 1) := by decide +kernel
theorem dX8_leavesBefore_37 : decode cX8_leavesBefore 37 = .ok (.iload_n 3, 1) := by decide +kernel
theorem dX8_leavesBefore_38 : decode cX8_leavesBefore 38 = .ok (.invokevirtual 90, 3) := by decide +kernel
theorem dX8_leavesBefore_41 : decode cX8_leavesBefore 41 = .ok (.invokevirtual 86, 3) := by decide +kernel
theorem dX8_leavesBefore_44 : decode cX8_leavesBefore 44 = .ok (.aload_n 0, 1) := by decide +kernel
theorem dX8_leavesBefore_45 : decode cX8_leavesBefore 45 = .ok (.getfield 52, 3) := by decide +kernel
theorem dX8_leavesBefore_48 : decode cX8_leavesBefore 48 = .ok (.aload_n 0, 1) := by decide +kernel
theorem dX8_leavesBefore_49 : decode cX8_leavesBefore 49 = .ok (.getfield 55, 3) := by decide +kernel
theorem dX8_leavesBefore_52 : decode cX8_leavesBefore 52 = .ok (.invokevirtual 181, 3) := by decide +kernel
theorem dX8_leavesBefore_55 : decode cX8_leavesBefore 55 = .ok (.istore 4, 2) := by decide +kernel
theorem dX8_leavesBefore_57 : decode cX8_leavesBefore 57 = .ok (.iload 4, 2) := by decide +kernel
theorem dX8_leavesBefore_59 : decode cX8_leavesBefore 59 = .ok (.ifCond .lt 23, 3) := by decide +kernel
theorem dX8_leavesBefore_62 : decode cX8_leavesBefore 62 = .ok (.iload 4, 2) := by decide +kernel
theorem dX8_leavesBefore_64 : decode cX8_leavesBefore 64 = .ok (.ifCond .ne 22, 3) := by decide +kernel
theorem dX8_leavesBefore_67 : decode cX8_leavesBefore 67 = .ok (.aload_n 0, 1) := by decide +kernel
theorem dX8_leavesBefore_68 : decode cX8_leavesBefore 68 = .ok (.getfield 17, 3) := by decide +kernel
theorem dX8_leavesBefore_71 : decode cX8_leavesBefore 71 = .ok (.iload_n 1, 1) := by decide +kernel
theorem dX8_leavesBefore_72 : decode cX8_leavesBefore 72 = .ok (.iaload, 1) := by decide +kernel
theorem dX8_leavesBefore_73 : decode cX8_leavesBefore 73 = .ok (.aload_n 0, 1) := by decide +kernel
theorem dX8_leavesBefore_74 : decode cX8_leavesBefore 74 = .ok (.getfield 17, 3) := by decide +kernel
theorem dX8_leavesBefore_77 : decode cX8_leavesBefore 77 = .ok (.iload_n 2, 1) := by decide +kernel
theorem dX8_leavesBefore_78 : decode cX8_leavesBefore 78 = .ok (.iaload, 1) := by decide +kernel
theorem dX8_leavesBefore_79 : decode cX8_leavesBefore 79 = .ok (.if_icmp .ge 7, 3) := by decide +kernel
theorem dX8_leavesBefore_82 : decode cX8_leavesBefore 82 = .ok (.iconst 1, 1) := by decide +kernel
theorem dX8_leavesBefore_83 : decode cX8_leavesBefore 83 = .ok (.goto 4, 3) := by decide +kernel
theorem dX8_leavesBefore_86 : decode cX8_leavesBefore 86 = .ok (.iconst 0, 1) := by decide +kernel
theorem dX8_leavesBefore_87 : decode cX8_leavesBefore 87 = .ok (.ireturn, 1) := by decide +kernel
set_option maxRecDepth 20000 in
theorem ggX8_exchange_X1_prepare : GoodIn wsX8_exchange wsX1_prepare := goodIn_s _ [(12, 47), (130, 6)] rfl (by decide +kernel)
set_option maxRecDepth 20000 in
theorem gX8_exchange_X1_prepare : GoodIn wsX8_exchange (wsV RX8 185 RX1 yX1_prepare wsX1_prepare) := goodIn_app (goodIn_r _ [8, 9, 10, 11] rfl (by decide +kernel)) ggX8_exchange_X1_prepare
set_option maxRecDepth 20000 in
theorem ggX8_exchange_X8_cell : GoodIn wsX8_exchange wsX8_cell := goodIn_s _ [(63, 2), (117, 13)] rfl (by decide +kernel)
set_option maxRecDepth 20000 in
theorem gX8_exchange_X8_cell : GoodIn wsX8_exchange (wsV RX8 90 RX8 yX8_cell wsX8_cell) := goodIn_app (goodIn_r _ [59, 60, 61, 62] rfl (by decide +kernel)) ggX8_exchange_X8_cell
set_option maxRecDepth 20000 in
theorem ggX8_exchange_X8_renew : GoodIn wsX8_exchange wsX8_renew := goodIn_s _ [(68, 2), (5, 1), (70, 1), (1, 1), (71, 3), (21, 1), (74, 1), (23, 6), (33, 1), (50, 5), (75, 4), (55, 4), (79, 9), (19, 2), (22, 1), (29, 4), (88, 15), (11, 1), (103, 1), (14, 1), (13, 1), (15, 1), (104, 1), (48, 2), (16, 2), (105, 1), (43, 5), (106, 11), (133, 3), (117, 16)] rfl (by decide +kernel)
set_option maxRecDepth 20000 in
theorem gX8_exchange_X8_renew : GoodIn wsX8_exchange (wsV RX8 188 RX8 yX8_renew wsX8_renew) := goodIn_app (goodIn_r _ [65, 66, 67, 62] rfl (by decide +kernel)) ggX8_exchange_X8_renew
set_option maxRecDepth 20000 in
theorem ggX8_exchange_X0_negate : GoodIn wsX8_exchange wsX0_negate := goodIn_s _ [(82, 1), (33, 1), (23, 1), (133, 3)] rfl (by decide +kernel)
set_option maxRecDepth 20000 in
theorem gX8_exchange_X0_negate : GoodIn wsX8_exchange (wsV RX8 192 RX0 yX0_negate wsX0_negate) := goodIn_app (goodIn_r _ [79, 80, 81, 21] rfl (by decide +kernel)) ggX8_exchange_X0_negate
set_option maxRecDepth 20000 in
theorem ggX8_exchange_X0_copy : GoodIn wsX8_exchange wsX0_copy := goodIn_s _ [(22, 12), (133, 3)] rfl (by decide +kernel)
set_option maxRecDepth 20000 in
theorem gX8_exchange_X0_copy : GoodIn wsX8_exchange (wsV RX8 103 RX0 yX0_copy wsX0_copy) := goodIn_app (goodIn_r _ [116, 19, 20, 21] rfl (by decide +kernel)) ggX8_exchange_X0_copy
theorem dX8_exchange_0 : decode cX8_exchange 0 = .ok (.aload_n 0, 1) := by decide +kernel
theorem dX8_exchange_1 : decode cX8_exchange 1 = .ok (.getfield 61, 3) := by decide +kernel
theorem dX8_exchange_4 : decode cX8_exchange 4 = .ok (.aload_n 0, 1) := by decide +kernel
theorem dX8_exchange_5 : decode cX8_exchange 5 = .ok (.getfield 48, 3) := by decide +kernel
theorem dX8_exchange_8 : decode cX8_exchange 8 = .ok (.invokevirtual 185, 3) := by decide +kernel
theorem dX8_exchange_11 : decode cX8_exchange 11 = .ok (.aload_n 0, 1) := by decide +kernel
theorem dX8_exchange_12 : decode cX8_exchange 12 = .ok (.iload_n 1, 1) := by decide +kernel
theorem dX8_exchange_13 : decode cX8_exchange 13 = .ok (.iload_n 2, 1) := by decide +kernel
theorem dX8_exchange_14 : decode cX8_exchange 14 = .ok (.invokevirtual 90, 3) := by decide +kernel
theorem dX8_exchange_17 : decode cX8_exchange 17 = .ok (.astore_n 3, 1) := by decide +kernel
theorem dX8_exchange_18 : decode cX8_exchange 18 = .ok (.iconst 0, 1) := by decide +kernel
theorem dX8_exchange_19 : decode cX8_exchange 19 = .ok (.istore 4, 2) := by decide +kernel
theorem dX8_exchange_21 : decode cX8_exchange 21 = .ok (.iload 4, 2) := by decide +kernel
theorem dX8_exchange_23 : decode cX8_exchange 23 = .ok (.aload_n 0, 1) := by decide +kernel
theorem dX8_exchange_24 : decode cX8_exchange 24 = .ok (.getfield 28, 3) := by decide +kernel
theorem dX8_exchange_27 : decode cX8_exchange 27 = .ok (.if_icmp .gt 66, 3) := by decide +kernel
theorem dX8_exchange_30 : decode cX8_exchange 30 = .ok (.iconst 0, 1) := by decide +kernel
theorem dX8_exchange_31 : decode cX8_exchange 31 = .ok (.istore 5, 2) := by decide +kernel
theorem dX8_exchange_33 : decode cX8_exchange 33 = .ok (.iload 5, 2) := by decide +kernel
theorem dX8_exchange_35 : decode cX8_exchange 35 = .ok (.aload_n 0, 1) := by decide +kernel
theorem dX8_exchange_36 : decode cX8_exchange 36 = .ok (.getfield 32, 3) := by decide +kernel
theorem dX8_exchange_39 : decode cX8_exchange 39 = .ok (.if_icmp .gt 48, 3) := by decide +kernel
theorem dX8_exchange_42 : decode cX8_exchange 42 = .ok (.iload 4, 2) := by decide +kernel
theorem dX8_exchange_44 : decode cX8_exchange 44 = .ok (.iload_n 1, 1) := by decide +kernel
theorem dX8_exchange_45 : decode cX8_exchange 45 = .ok (.if_icmp .eq 42, 3) := by decide +kernel
theorem dX8_exchange_48 : decode cX8_exchange 48 = .ok (.iload 5, 2) := by decide +kernel
theorem dX8_exchange_50 : decode cX8_exchange 50 = .ok (.iload_n 2, 1) := by decide +kernel
theorem dX8_exchange_51 : decode cX8_exchange 51 = .ok (.if_icmp .eq 30, 3) := by decide +kernel
theorem dX8_exchange_54 : decode cX8_exchange 54 = .ok (.aload_n 0, 1) := by decide +kernel
theorem dX8_exchange_55 : decode cX8_exchange 55 = .ok (.aload_n 0, 1) := by decide +kernel
theorem dX8_exchange_56 : decode cX8_exchange 56 = .ok (.iload 4, 2) := by decide +kernel
theorem dX8_exchange_58 : decode cX8_exchange 58 = .ok (.iload 5, 2) := by decide +kernel
theorem dX8_exchange_60 : decode cX8_exchange 60 = .ok (.invokevirtual 90, 3) := by decide +kernel
theorem dX8_exchange_63 : decode cX8_exchange 63 = .ok (.aload_n 3, 1) := by decide +kernel
theorem dX8_exchange_64 : decode cX8_exchange 64 = .ok (.aload_n 0, 1) := by decide +kernel
theorem dX8_exchange_65 : decode cX8_exchange 65 = .ok (.iload 4, 2) := by decide +kernel
theorem dX8_exchange_67 : decode cX8_exchange 67 = .ok (.iload_n 2, 1) := by decide +kernel
theorem dX8_exchange_68 : decode cX8_exchange 68 = .ok (.invokevirtual 90, 3) := by decide +kernel
theorem dX8_exchange_71 : decode cX8_exchange 71 = .ok (.aload_n 0, 1) := by decide +kernel
theorem dX8_exchange_72 : decode cX8_exchange 72 = .ok (.iload_n 1, 1) := by decide +kernel
theorem dX8_exchange_73 : decode cX8_exchange 73 = .ok (.iload 5, 2) := by decide +kernel
theorem dX8_exchange_75 : decode cX8_exchange 75 = .ok (.invokevirtual 90, 3) := by decide +kernel
theorem dX8_exchange_78 : decode cX8_exchange 78 = .ok (.invokevirtual 188, 3) := by decide +kernel
theorem dX8_exchange_81 : decode cX8_exchange 81 = .ok (.iinc 5 1, 3) := by decide +kernel
theorem dX8_exchange_84 : decode cX8_exchange 84 = .ok (.goto (-51), 3) := by decide +kernel
theorem dX8_exchange_87 : decode cX8_exchange 87 = .ok (.iinc 4 1, 3) := by decide +kernel
theorem dX8_exchange_90 : decode cX8_exchange 90 = .ok (.goto (-69), 3) := by decide +kernel
theorem dX8_exchange_93 : decode cX8_exchange 93 = .ok (.iconst 0, 1) := by decide +kernel
theorem dX8_exchange_94 : decode cX8_exchange 94 = .ok (.istore 4, 2) := by decide +kernel
theorem dX8_exchange_96 : decode cX8_exchange 96 = .ok (.iload 4, 2) := by decide +kernel
theorem dX8_exchange_98 : decode cX8_exchange 98 = .ok (.aload_n 0, 1) := by decide +kernel
theorem dX8_exchange_99 : decode cX8_exchange 99 = .ok (.getfield 28, 3) := by decide +kernel
theorem dX8_exchange_102 : decode cX8_exchange 102 = .ok (.if_icmp .gt 25, 3) := by decide +kernel
theorem dX8_exchange_105 : decode cX8_exchange 105 = .ok (.iload 4, 2) := by decide +kernel
theorem dX8_exchange_107 : decode cX8_exchange 107 = .ok (.iload_n 1, 1) := by decide +kernel
theorem dX8_exchange_108 : decode cX8_exchange 108 = .ok (.if_icmp .eq 13, 3) := by decide +kernel
theorem dX8_exchange_111 : decode cX8_exchange 111 = .ok (.aload_n 0, 1) := by decide +kernel
theorem dX8_exchange_112 : decode cX8_exchange 112 = .ok (.iload 4, 2) := by decide +kernel
theorem dX8_exchange_114 : decode cX8_exchange 114 = .ok (.iload_n 2, 1) := by decide +kernel
theorem dX8_exchange_115 : decode cX8_exchange 115 = .ok (.invokevirtual 90, 3) := by decide +kernel
theorem dX8_exchange_118 : decode cX8_exchange 118 = .ok (.invokevirtual 192, 3) := by decide +kernel
theorem dX8_exchange_121 : decode cX8_exchange 121 = .ok (.iinc 4 1, 3) := by decide +kernel
theorem dX8_exchange_124 : decode cX8_exchange 124 = .ok (.goto (-28), 3) := by decide +kernel
theorem dX8_exchange_127 : decode cX8_exchange 127 = .ok (.aload_n 0, 1) := by decide +kernel
theorem dX8_exchange_128 : decode cX8_exchange 128 = .ok (.getfield 52, 3) := by decide +kernel
theorem dX8_exchange_131 : decode cX8_exchange 131 = .ok (.aload_n 0, 1) := by decide +kernel
theorem dX8_exchange_132 : decode cX8_exchange 132 = .ok (.getfield 48, 3) := by decide +kernel
theorem dX8_exchange_135 : decode cX8_exchange 135 = .ok (.invokevirtual 103, 3) := by decide +kernel
theorem dX8_exchange_138 : decode cX8_exchange 138 = .ok (.aload_n 0, 1) := by decide +kernel
theorem dX8_exchange_139 : decode cX8_exchange 139 = .ok (.getfield 48, 3) := by decide +kernel
theorem dX8_exchange_142 : decode cX8_exchange 142 = .ok (.aload_n 3, 1) := by decide +kernel
theorem dX8_exchange_143 : decode cX8_exchange 143 = .ok (.invokevirtual 103, 3) := by decide +kernel
theorem dX8_exchange_146 : decode cX8_exchange 146 = .ok (.aload_n 3, 1) := by decide +kernel
theorem dX8_exchange_147 : decode cX8_exchange 147 = .ok (.aload_n 0, 1) := by decide +kernel
theorem dX8_exchange_148 : decode cX8_exchange 148 = .ok (.getfield 52, 3) := by decide +kernel
theorem dX8_exchange_151 : decode cX8_exchange 151 = .ok (.invokevirtual 103, 3) := by decide +kernel
theorem dX8_exchange_154 : decode cX8_exchange 154 = .ok (.aload_n 0, 1) := by decide +kernel
theorem dX8_exchange_155 : decode cX8_exchange 155 = .ok (.getfield 17, 3) := by decide +kernel
theorem dX8_exchange_158 : decode cX8_exchange 158 = .ok (.iload_n 1, 1) := by decide +kernel
theorem dX8_exchange_159 : decode cX8_exchange 159 = .ok (.iaload, 1) := by decide +kernel
theorem dX8_exchange_160 : decode cX8_exchange 160 = .ok (.istore 4, 2) := by decide +kernel
theorem dX8_exchange_162 : decode cX8_exchange 162 = .ok (.aload_n 0, 1) := by decide +kernel
theorem dX8_exchange_163 : decode cX8_exchange 163 = .ok (.getfield 17, 3) := by decide +kernel
theorem dX8_exchange_166 : decode cX8_exchange 166 = .ok (.iload_n 1, 1) := by decide +kernel
theorem dX8_exchange_167 : decode cX8_exchange 167 = .ok (.aload_n 0, 1) := by decide +kernel
theorem dX8_exchange_168 : decode cX8_exchange 168 = .ok (.getfield 21, 3) := by decide +kernel
theorem dX8_exchange_171 : decode cX8_exchange 171 = .ok (.iload_n 2, 1) := by decide +kernel
theorem dX8_exchange_172 : decode cX8_exchange 172 = .ok (.iaload, 1) := by decide +kernel
theorem dX8_exchange_173 : decode cX8_exchange 173 = .ok (.iastore, 1) := by decide +kernel
theorem dX8_exchange_174 : decode cX8_exchange 174 = .ok (.aload_n 0, 1) := by decide +kernel
theorem dX8_exchange_175 : decode cX8_exchange 175 = .ok (.getfield 21, 3) := by decide +kernel
theorem dX8_exchange_178 : decode cX8_exchange 178 = .ok (.iload_n 2, 1) := by decide +kernel
theorem dX8_exchange_179 : decode cX8_exchange 179 = .ok (.iload 4, 2) := by decide +kernel
theorem dX8_exchange_181 : decode cX8_exchange 181 = .ok (.iastore, 1) := by decide +kernel
theorem dX8_exchange_182 : decode cX8_exchange 182 = .ok (.return_, 1) := by decide +kernel
set_option maxRecDepth 20000 in
theorem ggX8_renew_X0_putProduct : GoodIn wsX8_renew wsX0_putProduct := goodIn_s _ [(9, 11), (8, 1), (20, 10), (88, 3)] rfl (by decide +kernel)
set_option maxRecDepth 20000 in
theorem gX8_renew_X0_putProduct : GoodIn wsX8_renew (wsV RX8 86 RX0 yX0_putProduct wsX0_putProduct) := goodIn_app (goodIn_r _ [5, 6, 7, 8] rfl (by decide +kernel)) ggX8_renew_X0_putProduct
set_option maxRecDepth 20000 in
theorem ggX8_renew_X0_negate : GoodIn wsX8_renew wsX0_negate := goodIn_s _ [(33, 1), (16, 1), (10, 1), (88, 3)] rfl (by decide +kernel)
set_option maxRecDepth 20000 in
theorem gX8_renew_X0_negate : GoodIn wsX8_renew (wsV RX8 192 RX0 yX0_negate wsX0_negate) := goodIn_app (goodIn_r _ [30, 31, 32, 8] rfl (by decide +kernel)) ggX8_renew_X0_negate
set_option maxRecDepth 20000 in
theorem ggX8_renew_X0_plus : GoodIn wsX8_renew wsX0_plus := goodIn_s _ [(37, 1), (10, 1), (16, 1), (38, 3), (8, 1), (41, 1), (11, 5), (42, 8), (21, 1), (50, 4), (17, 4), (54, 4), (26, 4), (88, 3)] rfl (by decide +kernel)
set_option maxRecDepth 20000 in
theorem gX8_renew_X0_plus : GoodIn wsX8_renew (wsV RX8 94 RX0 yX0_plus wsX0_plus) := goodIn_app (goodIn_r _ [34, 35, 36, 8] rfl (by decide +kernel)) ggX8_renew_X0_plus
set_option maxRecDepth 20000 in
theorem ggX8_renew_X1_divide : GoodIn wsX8_renew wsX1_divide := goodIn_s _ [(62, 6), (14, 1), (68, 7), (8, 1), (75, 1), (10, 1), (76, 1), (11, 1), (17, 5), (26, 4), (16, 1), (77, 7), (61, 1), (84, 2), (13, 1), (15, 1), (86, 1), (104, 3), (88, 3)] rfl (by decide +kernel)
set_option maxRecDepth 20000 in
theorem gX8_renew_X1_divide : GoodIn wsX8_renew (wsV RX8 198 RX1 yX1_divide wsX1_divide) := goodIn_app (goodIn_r _ [58, 59, 60, 61] rfl (by decide +kernel)) ggX8_renew_X1_divide
set_option maxRecDepth 20000 in
theorem ggX8_renew_X0_copy : GoodIn wsX8_renew wsX0_copy := goodIn_s _ [(41, 1), (10, 6), (42, 4), (16, 1), (88, 3)] rfl (by decide +kernel)
set_option maxRecDepth 20000 in
theorem gX8_renew_X0_copy : GoodIn wsX8_renew (wsV RX8 103 RX0 yX0_copy wsX0_copy) := goodIn_app (goodIn_r _ [87, 39, 40, 8] rfl (by decide +kernel)) ggX8_renew_X0_copy
theorem dX8_renew_0 : decode cX8_renew 0 = .ok (.aload_n 3, 1) := by decide +kernel
theorem dX8_renew_1 : decode cX8_renew 1 = .ok (.getfield 195, 3) := by decide +kernel
theorem dX8_renew_4 : decode cX8_renew 4 = .ok (.ifCond .le 15, 3) := by decide +kernel
theorem dX8_renew_7 : decode cX8_renew 7 = .ok (.aload 4, 2) := by decide +kernel
theorem dX8_renew_9 : decode cX8_renew 9 = .ok (.getfield 195, 3) := by decide +kernel
theorem dX8_renew_12 : decode cX8_renew 12 = .ok (.ifCond .le 7, 3) := by decide +kernel
theorem dX8_renew_15 : decode cX8_renew 15 = .ok (.iconst 1, 1) := by decide +kernel
theorem dX8_renew_16 : decode cX8_renew 16 = .ok (.goto 4, 3) := by decide +kernel
theorem dX8_renew_19 : decode cX8_renew 19 = .ok (.iconst 0, 1) := by decide +kernel
theorem dX8_renew_20 : decode cX8_renew 20 = .ok (.istore 5, 2) := by decide +kernel
theorem dX8_renew_22 : decode cX8_renew 22 = .ok (.iload 5, 2) := by decide +kernel
theorem dX8_renew_24 : decode cX8_renew 24 = .ok (.ifCond .ne 11, 3) := by decide +kernel
theorem dX8_renew_27 : decode cX8_renew 27 = .ok (.aload_n 1, 1) := by decide +kernel
theorem dX8_renew_28 : decode cX8_renew 28 = .ok (.getfield 195, 3) := by decide +kernel
theorem dX8_renew_31 : decode cX8_renew 31 = .ok (.ifCond .ne 4, 3) := by decide +kernel
theorem dX8_renew_34 : decode cX8_renew 34 = .ok (.return_, 1) := by decide +kernel
theorem dX8_renew_35 : decode cX8_renew 35 = .ok (.aload_n 0, 1) := by decide +kernel
theorem dX8_renew_36 : decode cX8_renew 36 = .ok (.getfield 52, 3) := by decide +kernel
theorem dX8_renew_39 : decode cX8_renew 39 = .ok (.aload_n 1, 1) := by decide +kernel
theorem dX8_renew_40 : decode cX8_renew 40 = .ok (.aload_n 2, 1) := by decide +kernel
theorem dX8_renew_41 : decode cX8_renew 41 = .ok (.invokevirtual 86, 3) := by decide +kernel
theorem dX8_renew_44 : decode cX8_renew 44 = .ok (.iload 5, 2) := by decide +kernel
theorem dX8_renew_46 : decode cX8_renew 46 = .ok (.ifCond .eq 31, 3) := by decide +kernel
theorem dX8_renew_49 : decode cX8_renew 49 = .ok (.aload_n 0, 1) := by decide +kernel
theorem dX8_renew_50 : decode cX8_renew 50 = .ok (.getfield 55, 3) := by decide +kernel
theorem dX8_renew_53 : decode cX8_renew 53 = .ok (.aload_n 3, 1) := by decide +kernel
theorem dX8_renew_54 : decode cX8_renew 54 = .ok (.aload 4, 2) := by decide +kernel
theorem dX8_renew_56 : decode cX8_renew 56 = .ok (.invokevirtual 86, 3) := by decide +kernel
theorem dX8_renew_59 : decode cX8_renew 59 = .ok (.aload_n 0, 1) := by decide +kernel
theorem dX8_renew_60 : decode cX8_renew 60 = .ok (.getfield 55, 3) := by decide +kernel
theorem dX8_renew_63 : decode cX8_renew 63 = .ok (.invokevirtual 192, 3) := by decide +kernel
theorem dX8_renew_66 : decode cX8_renew 66 = .ok (.aload_n 0, 1) := by decide +kernel
theorem dX8_renew_67 : decode cX8_renew 67 = .ok (.getfield 52, 3) := by decide +kernel
theorem dX8_renew_70 : decode cX8_renew 70 = .ok (.aload_n 0, 1) := by decide +kernel
theorem dX8_renew_71 : decode cX8_renew 71 = .ok (.getfield 55, 3) := by decide +kernel
theorem dX8_renew_74 : decode cX8_renew 74 = .ok (.invokevirtual 94, 3) := by decide +kernel
theorem dX8_renew_77 : decode cX8_renew 77 = .ok (.aload_n 0, 1) := by decide +kernel
theorem dX8_renew_78 : decode cX8_renew 78 = .ok (.getfield 61, 3) := by decide +kernel
theorem dX8_renew_81 : decode cX8_renew 81 = .ok (.aload_n 0, 1) := by decide +kernel
theorem dX8_renew_82 : decode cX8_renew 82 = .ok (.getfield 52, 3) := by decide +kernel
theorem dX8_renew_85 : decode cX8_renew 85 = .ok (.invokevirtual 198, 3) := by decide +kernel
theorem dX8_renew_88 : decode cX8_renew 88 = .ok (.aload_n 1, 1) := by decide +kernel
theorem dX8_renew_89 : decode cX8_renew 89 = .ok (.aload_n 0, 1) := by decide +kernel
theorem dX8_renew_90 : decode cX8_renew 90 = .ok (.getfield 52, 3) := by decide +kernel
theorem dX8_renew_93 : decode cX8_renew 93 = .ok (.invokevirtual 103, 3) := by decide +kernel
theorem dX8_renew_96 : decode cX8_renew 96 = .ok (.return_, 1) := by decide +kernel
theorem dX9_init_0 : decode cX9_init 0 = .ok (.aload_n 0, 1) := by decide +kernel
theorem dX9_init_1 : decode cX9_init 1 = .ok (.invokespecial 3, 3) := by decide +kernel
theorem dX9_init_4 : decode cX9_init 4 = .ok (.aload_n 0, 1) := by decide +kernel
theorem dX9_init_5 : decode cX9_init 5 = .ok (.bipush 40, 2) := by decide +kernel
theorem dX9_init_7 : decode cX9_init 7 = .ok (.newarray .int, 2) := by decide +kernel
theorem dX9_init_9 : decode cX9_init 9 = .ok (.putfield 9, 3) := by decide +kernel
theorem dX9_init_12 : decode cX9_init 12 = .ok (.aload_n 0, 1) := by decide +kernel
theorem dX9_init_13 : decode cX9_init 13 = .ok (.bipush 40, 2) := by decide +kernel
theorem dX9_init_15 : decode cX9_init 15 = .ok (.newarray .int, 2) := by decide +kernel
theorem dX9_init_17 : decode cX9_init 17 = .ok (.putfield 15, 3) := by decide +kernel
theorem dX9_init_20 : decode cX9_init 20 = .ok (.aload_n 0, 1) := by decide +kernel
theorem dX9_init_21 : decode cX9_init 21 = .ok (.bipush 10, 2) := by decide +kernel
theorem dX9_init_23 : decode cX9_init 23 = .ok (.newarray .int, 2) := by decide +kernel
theorem dX9_init_25 : decode cX9_init 25 = .ok (.putfield 18, 3) := by decide +kernel
theorem dX9_init_28 : decode cX9_init 28 = .ok (.iconst 0, 1) := by decide +kernel
theorem dX9_init_29 : decode cX9_init 29 = .ok (.istore_n 1, 1) := by decide +kernel
theorem dX9_init_30 : decode cX9_init 30 = .ok (.iload_n 1, 1) := by decide +kernel
theorem dX9_init_31 : decode cX9_init 31 = .ok (.bipush 40, 2) := by decide +kernel
theorem dX9_init_33 : decode cX9_init 33 = .ok (.if_icmp .ge 16, 3) := by decide +kernel
theorem dX9_init_36 : decode cX9_init 36 = .ok (.aload_n 0, 1) := by decide +kernel
theorem dX9_init_37 : decode cX9_init 37 = .ok (.getfield 15, 3) := by decide +kernel
theorem dX9_init_40 : decode cX9_init 40 = .ok (.iload_n 1, 1) := by decide +kernel
theorem dX9_init_41 : decode cX9_init 41 = .ok (.iconst 1, 1) := by decide +kernel
theorem dX9_init_42 : decode cX9_init 42 = .ok (.iastore, 1) := by decide +kernel
theorem dX9_init_43 : decode cX9_init 43 = .ok (.iinc 1 1, 3) := by decide +kernel
theorem dX9_init_46 : decode cX9_init 46 = .ok (.goto (-16), 3) := by decide +kernel
theorem dX9_init_49 : decode cX9_init 49 = .ok (.return_, 1) := by decide +kernel
theorem dX9_restart_0 : decode cX9_restart 0 = .ok (.iconst 0, 1) := by decide +kernel
theorem dX9_restart_1 : decode cX9_restart 1 = .ok (.istore_n 1, 1) := by decide +kernel
theorem dX9_restart_2 : decode cX9_restart 2 = .ok (.iload_n 1, 1) := by decide +kernel
theorem dX9_restart_3 : decode cX9_restart 3 = .ok (.bipush 40, 2) := by decide +kernel
theorem dX9_restart_5 : decode cX9_restart 5 = .ok (.if_icmp .ge 33, 3) := by decide +kernel
theorem dX9_restart_8 : decode cX9_restart 8 = .ok (.aload_n 0, 1) := by decide +kernel
theorem dX9_restart_9 : decode cX9_restart 9 = .ok (.getfield 9, 3) := by decide +kernel
theorem dX9_restart_12 : decode cX9_restart 12 = .ok (.iload_n 1, 1) := by decide +kernel
theorem dX9_restart_13 : decode cX9_restart 13 = .ok (.iload_n 1, 1) := by decide +kernel
theorem dX9_restart_14 : decode cX9_restart 14 = .ok (.iconst 4, 1) := by decide +kernel
theorem dX9_restart_15 : decode cX9_restart 15 = .ok (.irem, 1) := by decide +kernel
theorem dX9_restart_16 : decode cX9_restart 16 = .ok (.ifCond .ne 7, 3) := by decide +kernel
theorem dX9_restart_19 : decode cX9_restart 19 = .ok (.iconst 1, 1) := by decide +kernel
theorem dX9_restart_20 : decode cX9_restart 20 = .ok (.goto 4, 3) := by decide +kernel
theorem dX9_restart_23 : decode cX9_restart 23 = .ok (.iconst 0, 1) := by decide +kernel
theorem dX9_restart_24 : decode cX9_restart 24 = .ok (.iastore, 1) := by decide +kernel
theorem dX9_restart_25 : decode cX9_restart 25 = .ok (.aload_n 0, 1) := by decide +kernel
theorem dX9_restart_26 : decode cX9_restart 26 = .ok (.getfield 15, 3) := by decide +kernel
theorem dX9_restart_29 : decode cX9_restart 29 = .ok (.iload_n 1, 1) := by decide +kernel
theorem dX9_restart_30 : decode cX9_restart 30 = .ok (.iconst 1, 1) := by decide +kernel
theorem dX9_restart_31 : decode cX9_restart 31 = .ok (.iastore, 1) := by decide +kernel
theorem dX9_restart_32 : decode cX9_restart 32 = .ok (.iinc 1 1, 3) := by decide +kernel
theorem dX9_restart_35 : decode cX9_restart 35 = .ok (.goto (-33), 3) := by decide +kernel
theorem dX9_restart_38 : decode cX9_restart 38 = .ok (.return_, 1) := by decide +kernel
set_option maxRecDepth 20000 in
theorem ggX9_putChance_X11_gcd : GoodIn wsX9_putChance wsX11_gcd := goodIn_r _ [5, 6, 7, 8, 9] rfl (by decide +kernel)
set_option maxRecDepth 20000 in
theorem gX9_putChance_X11_gcd_n21 : GoodIn wsX9_putChance (wsX11_gcd) := ggX9_putChance_X11_gcd
set_option maxRecDepth 20000 in
theorem ggX9_putChance_X11_quotient : GoodIn wsX9_putChance wsX11_quotient := goodIn_r _ [11] rfl (by decide +kernel)
set_option maxRecDepth 20000 in
theorem gX9_putChance_X11_quotient_n25 : GoodIn wsX9_putChance (wsX11_quotient) := ggX9_putChance_X11_quotient
theorem dX9_putChance_0 : decode cX9_putChance 0 = .ok (.iload_n 3, 1) := by decide +kernel
theorem dX9_putChance_1 : decode cX9_putChance 1 = .ok (.i2l, 1) := by decide +kernel
theorem dX9_putChance_2 : decode cX9_putChance 2 = .ok (.iload 4, 2) := by decide +kernel
theorem dX9_putChance_4 : decode cX9_putChance 4 = .ok (.i2l, 1) := by decide +kernel
theorem dX9_putChance_5 : decode cX9_putChance 5 = .ok (.invokestatic 21, 3) := by decide +kernel
theorem dX9_putChance_8 : decode cX9_putChance 8 = .ok (.lstore 5, 2) := by decide +kernel
theorem dX9_putChance_10 : decode cX9_putChance 10 = .ok (.aload_n 0, 1) := by decide +kernel
theorem dX9_putChance_11 : decode cX9_putChance 11 = .ok (.getfield 9, 3) := by decide +kernel
theorem dX9_putChance_14 : decode cX9_putChance 14 = .ok (.iload_n 1, 1) := by decide +kernel
theorem dX9_putChance_15 : decode cX9_putChance 15 = .ok (.iconst 4, 1) := by decide +kernel
theorem dX9_putChance_16 : decode cX9_putChance 16 = .ok (.imul, 1) := by decide +kernel
theorem dX9_putChance_17 : decode cX9_putChance 17 = .ok (.iload_n 2, 1) := by decide +kernel
theorem dX9_putChance_18 : decode cX9_putChance 18 = .ok (.iadd, 1) := by decide +kernel
theorem dX9_putChance_19 : decode cX9_putChance 19 = .ok (.iload_n 3, 1) := by decide +kernel
theorem dX9_putChance_20 : decode cX9_putChance 20 = .ok (.i2l, 1) := by decide +kernel
theorem dX9_putChance_21 : decode cX9_putChance 21 = .ok (.lload 5, 2) := by decide +kernel
theorem dX9_putChance_23 : decode cX9_putChance 23 = .ok (.invokestatic 25, 3) := by decide +kernel
theorem dX9_putChance_26 : decode cX9_putChance 26 = .ok (.l2i, 1) := by decide +kernel
theorem dX9_putChance_27 : decode cX9_putChance 27 = .ok (.iastore, 1) := by decide +kernel
theorem dX9_putChance_28 : decode cX9_putChance 28 = .ok (.aload_n 0, 1) := by decide +kernel
theorem dX9_putChance_29 : decode cX9_putChance 29 = .ok (.getfield 15, 3) := by decide +kernel
theorem dX9_putChance_32 : decode cX9_putChance 32 = .ok (.iload_n 1, 1) := by decide +kernel
theorem dX9_putChance_33 : decode cX9_putChance 33 = .ok (.iconst 4, 1) := by decide +kernel
theorem dX9_putChance_34 : decode cX9_putChance 34 = .ok (.imul, 1) := by decide +kernel
theorem dX9_putChance_35 : decode cX9_putChance 35 = .ok (.iload_n 2, 1) := by decide +kernel
theorem dX9_putChance_36 : decode cX9_putChance 36 = .ok (.iadd, 1) := by decide +kernel
theorem dX9_putChance_37 : decode cX9_putChance 37 = .ok (.iload 4, 2) := by decide +kernel
theorem dX9_putChance_39 : decode cX9_putChance 39 = .ok (.i2l, 1) := by decide +kernel
theorem dX9_putChance_40 : decode cX9_putChance 40 = .ok (.lload 5, 2) := by decide +kernel
theorem dX9_putChance_42 : decode cX9_putChance 42 = .ok (.invokestatic 25, 3) := by decide +kernel
theorem dX9_putChance_45 : decode cX9_putChance 45 = .ok (.l2i, 1) := by decide +kernel
theorem dX9_putChance_46 : decode cX9_putChance 46 = .ok (.iastore, 1) := by decide +kernel
theorem dX9_putChance_47 : decode cX9_putChance 47 = .ok (.return_, 1) := by decide +kernel
set_option maxRecDepth 20000 in
theorem ggX9_isGood_X9_bottomOf : GoodIn wsX9_isGood wsX9_bottomOf := goodIn_s _ [(7, 1), (2, 1), (8, 14), (27, 11)] rfl (by decide +kernel)
set_option maxRecDepth 20000 in
theorem gX9_isGood_X9_bottomOf : GoodIn wsX9_isGood (wsV RX9 34 RX9 yX9_bottomOf wsX9_bottomOf) := goodIn_app (goodIn_r _ [3, 4, 5, 6] rfl (by decide +kernel)) ggX9_isGood_X9_bottomOf
set_option maxRecDepth 20000 in
theorem ggX9_isGood_X9_topOf : GoodIn wsX9_isGood wsX9_topOf := goodIn_r _ [25, 8, 26, 20, 10, 21, 35, 36, 37] rfl (by decide +kernel)
set_option maxRecDepth 20000 in
theorem gX9_isGood_X9_topOf : GoodIn wsX9_isGood (wsV RX9 41 RX9 yX9_topOf wsX9_topOf) := goodIn_app (goodIn_r _ [22, 23, 24, 6] rfl (by decide +kernel)) ggX9_isGood_X9_topOf
theorem dX9_isGood_0 : decode cX9_isGood 0 = .ok (.iconst 0, 1) := by decide +kernel
theorem dX9_isGood_1 : decode cX9_isGood 1 = .ok (.istore_n 2, 1) := by decide +kernel
theorem dX9_isGood_2 : decode cX9_isGood 2 = .ok (.iload_n 2, 1) := by decide +kernel
theorem dX9_isGood_3 : decode cX9_isGood 3 = .ok (.aload_n 1, 1) := by decide +kernel
theorem dX9_isGood_4 : decode cX9_isGood 4 = .ok (.getfield 28, 3) := by decide +kernel
theorem dX9_isGood_7 : decode cX9_isGood 7 = .ok (.if_icmp .ge 61, 3) := by decide +kernel
theorem dX9_isGood_10 : decode cX9_isGood 10 = .ok (.aload_n 0, 1) := by decide +kernel
theorem dX9_isGood_11 : decode cX9_isGood 11 = .ok (.aload_n 1, 1) := by decide +kernel
theorem dX9_isGood_12 : decode cX9_isGood 12 = .ok (.iload_n 2, 1) := by decide +kernel
theorem dX9_isGood_13 : decode cX9_isGood 13 = .ok (.invokevirtual 34, 3) := by decide +kernel
theorem dX9_isGood_16 : decode cX9_isGood 16 = .ok (.lstore_n 3, 1) := by decide +kernel
theorem dX9_isGood_17 : decode cX9_isGood 17 = .ok (.lconst 0, 1) := by decide +kernel
theorem dX9_isGood_18 : decode cX9_isGood 18 = .ok (.lstore 5, 2) := by decide +kernel
theorem dX9_isGood_20 : decode cX9_isGood 20 = .ok (.iconst 0, 1) := by decide +kernel
theorem dX9_isGood_21 : decode cX9_isGood 21 = .ok (.istore 7, 2) := by decide +kernel
theorem dX9_isGood_23 : decode cX9_isGood 23 = .ok (.iload 7, 2) := by decide +kernel
theorem dX9_isGood_25 : decode cX9_isGood 25 = .ok (.aload_n 1, 1) := by decide +kernel
theorem dX9_isGood_26 : decode cX9_isGood 26 = .ok (.getfield 38, 3) := by decide +kernel
theorem dX9_isGood_29 : decode cX9_isGood 29 = .ok (.iload_n 2, 1) := by decide +kernel
theorem dX9_isGood_30 : decode cX9_isGood 30 = .ok (.iaload, 1) := by decide +kernel
theorem dX9_isGood_31 : decode cX9_isGood 31 = .ok (.if_icmp .ge 22, 3) := by decide +kernel
theorem dX9_isGood_34 : decode cX9_isGood 34 = .ok (.lload 5, 2) := by decide +kernel
theorem dX9_isGood_36 : decode cX9_isGood 36 = .ok (.aload_n 0, 1) := by decide +kernel
theorem dX9_isGood_37 : decode cX9_isGood 37 = .ok (.iload_n 2, 1) := by decide +kernel
theorem dX9_isGood_38 : decode cX9_isGood 38 = .ok (.iload 7, 2) := by decide +kernel
theorem dX9_isGood_40 : decode cX9_isGood 40 = .ok (.lload_n 3, 1) := by decide +kernel
theorem dX9_isGood_41 : decode cX9_isGood 41 = .ok (.invokevirtual 41, 3) := by decide +kernel
theorem dX9_isGood_44 : decode cX9_isGood 44 = .ok (.ladd, 1) := by decide +kernel
theorem dX9_isGood_45 : decode cX9_isGood 45 = .ok (.lstore 5, 2) := by decide +kernel
theorem dX9_isGood_47 : decode cX9_isGood 47 = .ok (.iinc 7 1, 3) := by decide +kernel
theorem dX9_isGood_50 : decode cX9_isGood 50 = .ok (.goto (-27), 3) := by decide +kernel
theorem dX9_isGood_53 : decode cX9_isGood 53 = .ok (.lload 5, 2) := by decide +kernel
theorem dX9_isGood_55 : decode cX9_isGood 55 = .ok (.lload_n 3, 1) := by decide +kernel
theorem dX9_isGood_56 : decode cX9_isGood 56 = .ok (.lcmp, 1) := by decide +kernel
theorem dX9_isGood_57 : decode cX9_isGood 57 = .ok (.ifCond .eq 5, 3) := by decide +kernel
theorem dX9_isGood_60 : decode cX9_isGood 60 = .ok (.iconst 0, 1) := by decide +kernel
theorem dX9_isGood_61 : decode cX9_isGood 61 = .ok (.ireturn, 1) := by decide +kernel
theorem dX9_isGood_62 : decode cX9_isGood 62 = .ok (.iinc 2 1, 3) := by decide +kernel
theorem dX9_isGood_65 : decode cX9_isGood 65 = .ok (.goto (-63), 3) := by decide +kernel
theorem dX9_isGood_68 : decode cX9_isGood 68 = .ok (.iconst 1, 1) := by decide +kernel
theorem dX9_isGood_69 : decode cX9_isGood 69 = .ok (.ireturn, 1) := by decide +kernel
set_option maxRecDepth 20000 in
theorem ggX9_bottomOf_X11_lcm : GoodIn wsX9_bottomOf wsX11_lcm := goodIn_s _ [(5, 3), (4, 1), (8, 8)] rfl (by decide +kernel)
set_option maxRecDepth 20000 in
theorem gX9_bottomOf_X11_lcm_n45 : GoodIn wsX9_bottomOf (wsX11_lcm) := ggX9_bottomOf_X11_lcm
theorem dX9_bottomOf_0 : decode cX9_bottomOf 0 = .ok (.lconst 1, 1) := by decide +kernel
theorem dX9_bottomOf_1 : decode cX9_bottomOf 1 = .ok (.lstore_n 3, 1) := by decide +kernel
theorem dX9_bottomOf_2 : decode cX9_bottomOf 2 = .ok (.iconst 0, 1) := by decide +kernel
theorem dX9_bottomOf_3 : decode cX9_bottomOf 3 = .ok (.istore 5, 2) := by decide +kernel
theorem dX9_bottomOf_5 : decode cX9_bottomOf 5 = .ok (.iload 5, 2) := by decide +kernel
theorem dX9_bottomOf_7 : decode cX9_bottomOf 7 = .ok (.aload_n 1, 1) := by decide +kernel
theorem dX9_bottomOf_8 : decode cX9_bottomOf 8 = .ok (.getfield 38, 3) := by decide +kernel
theorem dX9_bottomOf_11 : decode cX9_bottomOf 11 = .ok (.iload_n 2, 1) := by decide +kernel
theorem dX9_bottomOf_12 : decode cX9_bottomOf 12 = .ok (.iaload, 1) := by decide +kernel
theorem dX9_bottomOf_13 : decode cX9_bottomOf 13 = .ok (.if_icmp .ge 26, 3) := by decide +kernel
theorem dX9_bottomOf_16 : decode cX9_bottomOf 16 = .ok (.lload_n 3, 1) := by decide +kernel
theorem dX9_bottomOf_17 : decode cX9_bottomOf 17 = .ok (.aload_n 0, 1) := by decide +kernel
theorem dX9_bottomOf_18 : decode cX9_bottomOf 18 = .ok (.getfield 15, 3) := by decide +kernel
theorem dX9_bottomOf_21 : decode cX9_bottomOf 21 = .ok (.iload_n 2, 1) := by decide +kernel
theorem dX9_bottomOf_22 : decode cX9_bottomOf 22 = .ok (.iconst 4, 1) := by decide +kernel
theorem dX9_bottomOf_23 : decode cX9_bottomOf 23 = .ok (.imul, 1) := by decide +kernel
theorem dX9_bottomOf_24 : decode cX9_bottomOf 24 = .ok (.iload 5, 2) := by decide +kernel
theorem dX9_bottomOf_26 : decode cX9_bottomOf 26 = .ok (.iadd, 1) := by decide +kernel
theorem dX9_bottomOf_27 : decode cX9_bottomOf 27 = .ok (.iaload, 1) := by decide +kernel
theorem dX9_bottomOf_28 : decode cX9_bottomOf 28 = .ok (.i2l, 1) := by decide +kernel
theorem dX9_bottomOf_29 : decode cX9_bottomOf 29 = .ok (.invokestatic 45, 3) := by decide +kernel
theorem dX9_bottomOf_32 : decode cX9_bottomOf 32 = .ok (.lstore_n 3, 1) := by decide +kernel
theorem dX9_bottomOf_33 : decode cX9_bottomOf 33 = .ok (.iinc 5 1, 3) := by decide +kernel
theorem dX9_bottomOf_36 : decode cX9_bottomOf 36 = .ok (.goto (-31), 3) := by decide +kernel
theorem dX9_bottomOf_39 : decode cX9_bottomOf 39 = .ok (.lload_n 3, 1) := by decide +kernel
theorem dX9_bottomOf_40 : decode cX9_bottomOf 40 = .ok (.lreturn, 1) := by decide +kernel
set_option maxRecDepth 20000 in
theorem ggX9_topOf_X11_quotient : GoodIn wsX9_topOf wsX11_quotient := goodIn_r _ [5] rfl (by decide +kernel)
set_option maxRecDepth 20000 in
theorem gX9_topOf_X11_quotient_n25 : GoodIn wsX9_topOf (wsX11_quotient) := ggX9_topOf_X11_quotient
theorem dX9_topOf_0 : decode cX9_topOf 0 = .ok (.iload_n 1, 1) := by decide +kernel
theorem dX9_topOf_1 : decode cX9_topOf 1 = .ok (.iconst 4, 1) := by decide +kernel
theorem dX9_topOf_2 : decode cX9_topOf 2 = .ok (.imul, 1) := by decide +kernel
theorem dX9_topOf_3 : decode cX9_topOf 3 = .ok (.iload_n 2, 1) := by decide +kernel
theorem dX9_topOf_4 : decode cX9_topOf 4 = .ok (.iadd, 1) := by decide +kernel
theorem dX9_topOf_5 : decode cX9_topOf 5 = .ok (.istore 5, 2) := by decide +kernel
theorem dX9_topOf_7 : decode cX9_topOf 7 = .ok (.lload_n 3, 1) := by decide +kernel
theorem dX9_topOf_8 : decode cX9_topOf 8 = .ok (.aload_n 0, 1) := by decide +kernel
theorem dX9_topOf_9 : decode cX9_topOf 9 = .ok (.getfield 15, 3) := by decide +kernel
theorem dX9_topOf_12 : decode cX9_topOf 12 = .ok (.iload 5, 2) := by decide +kernel
theorem dX9_topOf_14 : decode cX9_topOf 14 = .ok (.iaload, 1) := by decide +kernel
theorem dX9_topOf_15 : decode cX9_topOf 15 = .ok (.i2l, 1) := by decide +kernel
theorem dX9_topOf_16 : decode cX9_topOf 16 = .ok (.invokestatic 25, 3) := by decide +kernel
theorem dX9_topOf_19 : decode cX9_topOf 19 = .ok (.aload_n 0, 1) := by decide +kernel
theorem dX9_topOf_20 : decode cX9_topOf 20 = .ok (.getfield 9, 3) := by decide +kernel
theorem dX9_topOf_23 : decode cX9_topOf 23 = .ok (.iload 5, 2) := by decide +kernel
theorem dX9_topOf_25 : decode cX9_topOf 25 = .ok (.iaload, 1) := by decide +kernel
theorem dX9_topOf_26 : decode cX9_topOf 26 = .ok (.i2l, 1) := by decide +kernel
theorem dX9_topOf_27 : decode cX9_topOf 27 = .ok (.lmul, 1) := by decide +kernel
theorem dX9_topOf_28 : decode cX9_topOf 28 = .ok (.lreturn, 1) := by decide +kernel
set_option maxRecDepth 20000 in
theorem ggX9_spread_X9_spreadLine : GoodIn wsX9_spread wsX9_spreadLine := goodIn_s _ [(9, 1), (2, 1), (10, 4), (8, 1), (14, 21), (3, 1), (35, 28), (68, 14)] rfl (by decide +kernel)
