theorem dX12_isGood_50 : decode cX12_isGood 50 = .ok (.lload 4, 2) := by decide +kernel
theorem dX12_isGood_52 : decode cX12_isGood 52 = .ok (.aload_n 0, 1) := by decide +kernel
theorem dX12_isGood_53 : decode cX12_isGood 53 = .ok (.getfield 202, 3) := by decide +kernel
theorem dX12_isGood_56 : decode cX12_isGood 56 = .ok (.iload 8, 2) := by decide +kernel
theorem dX12_isGood_58 : decode cX12_isGood 58 = .ok (.iaload, 1) := by decide +kernel
theorem dX12_isGood_59 : decode cX12_isGood 59 = .ok (.i2l, 1) := by decide +kernel
theorem dX12_isGood_60 : decode cX12_isGood 60 = .ok (.lmul, 1) := by decide +kernel
theorem dX12_isGood_61 : decode cX12_isGood 61 = .ok (.aload_n 0, 1) := by decide +kernel
theorem dX12_isGood_62 : decode cX12_isGood 62 = .ok (.getfield 199, 3) := by decide +kernel
theorem dX12_isGood_65 : decode cX12_isGood 65 = .ok (.iload 8, 2) := by decide +kernel
theorem dX12_isGood_67 : decode cX12_isGood 67 = .ok (.iaload, 1) := by decide +kernel
theorem dX12_isGood_68 : decode cX12_isGood 68 = .ok (.i2l, 1) := by decide +kernel
theorem dX12_isGood_69 : decode cX12_isGood 69 = .ok (.lload 6, 2) := by decide +kernel
theorem dX12_isGood_71 : decode cX12_isGood 71 = .ok (.lmul, 1) := by decide +kernel
theorem dX12_isGood_72 : decode cX12_isGood 72 = .ok (.ladd, 1) := by decide +kernel
theorem dX12_isGood_73 : decode cX12_isGood 73 = .ok (.lstore 4, 2) := by decide +kernel
theorem dX12_isGood_75 : decode cX12_isGood 75 = .ok (.lload 6, 2) := by decide +kernel
theorem dX12_isGood_77 : decode cX12_isGood 77 = .ok (.aload_n 0, 1) := by decide +kernel
theorem dX12_isGood_78 : decode cX12_isGood 78 = .ok (.getfield 202, 3) := by decide +kernel
theorem dX12_isGood_81 : decode cX12_isGood 81 = .ok (.iload 8, 2) := by decide +kernel
theorem dX12_isGood_83 : decode cX12_isGood 83 = .ok (.iaload, 1) := by decide +kernel
theorem dX12_isGood_84 : decode cX12_isGood 84 = .ok (.i2l, 1) := by decide +kernel
theorem dX12_isGood_85 : decode cX12_isGood 85 = .ok (.lmul, 1) := by decide +kernel
theorem dX12_isGood_86 : decode cX12_isGood 86 = .ok (.lstore 6, 2) := by decide +kernel
theorem dX12_isGood_88 : decode cX12_isGood 88 = .ok (.iinc 8 1, 3) := by decide +kernel
theorem dX12_isGood_91 : decode cX12_isGood 91 = .ok (.goto (-55), 3) := by decide +kernel
theorem dX12_isGood_94 : decode cX12_isGood 94 = .ok (.iload_n 2, 1) := by decide +kernel
theorem dX12_isGood_95 : decode cX12_isGood 95 = .ok (.ifCond .eq 15, 3) := by decide +kernel
theorem dX12_isGood_98 : decode cX12_isGood 98 = .ok (.lload 4, 2) := by decide +kernel
theorem dX12_isGood_100 : decode cX12_isGood 100 = .ok (.lload 6, 2) := by decide +kernel
theorem dX12_isGood_102 : decode cX12_isGood 102 = .ok (.lcmp, 1) := by decide +kernel
theorem dX12_isGood_103 : decode cX12_isGood 103 = .ok (.ifCond .ne 7, 3) := by decide +kernel
theorem dX12_isGood_106 : decode cX12_isGood 106 = .ok (.iconst 1, 1) := by decide +kernel
theorem dX12_isGood_107 : decode cX12_isGood 107 = .ok (.goto 4, 3) := by decide +kernel
theorem dX12_isGood_110 : decode cX12_isGood 110 = .ok (.iconst 0, 1) := by decide +kernel
theorem dX12_isGood_111 : decode cX12_isGood 111 = .ok (.istore_n 2, 1) := by decide +kernel
theorem dX12_isGood_112 : decode cX12_isGood 112 = .ok (.iinc 3 1, 3) := by decide +kernel
theorem dX12_isGood_115 : decode cX12_isGood 115 = .ok (.goto (-106), 3) := by decide +kernel
theorem dX12_isGood_118 : decode cX12_isGood 118 = .ok (.iload_n 2, 1) := by decide +kernel
theorem dX12_isGood_119 : decode cX12_isGood 119 = .ok (.ireturn, 1) := by decide +kernel
set_option maxRecDepth 20000 in
theorem ggX12_good_X12_isPlayer : GoodIn wsX12_good wsX12_isPlayer := goodIn_s _ [(6, 2), (25, 58)] rfl (by decide +kernel)
set_option maxRecDepth 20000 in
theorem gX12_good_X12_isPlayer : GoodIn wsX12_good (wsV RX12 335 RX12 yX12_isPlayer wsX12_isPlayer) := goodIn_app (goodIn_r _ [2, 3, 4, 5] rfl (by decide +kernel)) ggX12_good_X12_isPlayer
set_option maxRecDepth 20000 in
theorem ggX12_good_X12_isGood : GoodIn wsX12_good wsX12_isGood := goodIn_s _ [(11, 6), (5, 1), (17, 66)] rfl (by decide +kernel)
set_option maxRecDepth 20000 in
theorem gX12_good_X12_isGood : GoodIn wsX12_good (wsV RX12 348 RX12 yX12_isGood wsX12_isGood) := goodIn_app (goodIn_r _ [8, 9, 10, 5] rfl (by decide +kernel)) ggX12_good_X12_isGood
theorem dX12_good_0 : decode cX12_good 0 = .ok (.aload_n 0, 1) := by decide +kernel
theorem dX12_good_1 : decode cX12_good 1 = .ok (.iconst 0, 1) := by decide +kernel
theorem dX12_good_2 : decode cX12_good 2 = .ok (.putfield 223, 3) := by decide +kernel
theorem dX12_good_5 : decode cX12_good 5 = .ok (.aload_n 0, 1) := by decide +kernel
theorem dX12_good_6 : decode cX12_good 6 = .ok (.iload_n 1, 1) := by decide +kernel
theorem dX12_good_7 : decode cX12_good 7 = .ok (.invokevirtual 335, 3) := by decide +kernel
theorem dX12_good_10 : decode cX12_good 10 = .ok (.ifCond .ne 7, 3) := by decide +kernel
theorem dX12_good_13 : decode cX12_good 13 = .ok (.iconst (-1), 1) := by decide +kernel
theorem dX12_good_14 : decode cX12_good 14 = .ok (.goto 16, 3) := by decide +kernel
theorem dX12_good_17 : decode cX12_good 17 = .ok (.aload_n 0, 1) := by decide +kernel
theorem dX12_good_18 : decode cX12_good 18 = .ok (.iload_n 1, 1) := by decide +kernel
theorem dX12_good_19 : decode cX12_good 19 = .ok (.invokevirtual 348, 3) := by decide +kernel
theorem dX12_good_22 : decode cX12_good 22 = .ok (.ifCond .eq 7, 3) := by decide +kernel
theorem dX12_good_25 : decode cX12_good 25 = .ok (.iconst 1, 1) := by decide +kernel
theorem dX12_good_26 : decode cX12_good 26 = .ok (.goto 4, 3) := by decide +kernel
theorem dX12_good_29 : decode cX12_good 29 = .ok (.iconst 0, 1) := by decide +kernel
theorem dX12_good_30 : decode cX12_good 30 = .ok (.ireturn, 1) := by decide +kernel
set_option maxRecDepth 20000 in
theorem ggX12_expectAll_X12_setFraction : GoodIn wsX12_expectAll wsX12_setFraction := goodIn_s _ [(16, 4), (15, 1), (20, 50), (99, 58)] rfl (by decide +kernel)
set_option maxRecDepth 20000 in
theorem gX12_expectAll_X12_setFraction : GoodIn wsX12_expectAll (wsV RX12 351 RX12 yX12_setFraction wsX12_setFraction) := goodIn_app (goodIn_r _ [12, 13, 14, 15] rfl (by decide +kernel)) ggX12_expectAll_X12_setFraction
set_option maxRecDepth 20000 in
theorem ggX12_expectAll_X12_times : GoodIn wsX12_expectAll wsX12_times := goodIn_s _ [(73, 1), (17, 3), (15, 1), (20, 9), (74, 4), (45, 1), (58, 4), (29, 16), (46, 12), (62, 8), (99, 58)] rfl (by decide +kernel)
set_option maxRecDepth 20000 in
theorem gX12_expectAll_X12_times : GoodIn wsX12_expectAll (wsV RX12 355 RX12 yX12_times wsX12_times) := goodIn_app (goodIn_r _ [70, 71, 72, 15] rfl (by decide +kernel)) ggX12_expectAll_X12_times
set_option maxRecDepth 20000 in
theorem ggX12_expectAll_X12_addFraction : GoodIn wsX12_expectAll wsX12_addFraction := goodIn_s _ [(81, 1), (74, 3), (15, 1), (77, 1), (24, 1), (22, 1), (45, 1), (21, 1), (25, 4), (58, 4), (82, 9), (46, 4), (91, 8), (29, 8), (17, 4), (23, 1), (37, 8), (50, 8), (62, 8), (99, 58)] rfl (by decide +kernel)
set_option maxRecDepth 20000 in
theorem gX12_expectAll_X12_addFraction : GoodIn wsX12_expectAll (wsV RX12 358 RX12 yX12_addFraction wsX12_addFraction) := goodIn_app (goodIn_r _ [78, 79, 80, 15] rfl (by decide +kernel)) ggX12_expectAll_X12_addFraction
theorem dX12_expectAll_0 : decode cX12_expectAll 0 = .ok (.aload_n 0, 1) := by decide +kernel
theorem dX12_expectAll_1 : decode cX12_expectAll 1 = .ok (.sipush 4239, 3) := by decide +kernel
theorem dX12_expectAll_4 : decode cX12_expectAll 4 = .ok (.lconst 0, 1) := by decide +kernel
theorem dX12_expectAll_5 : decode cX12_expectAll 5 = .ok (.lconst 1, 1) := by decide +kernel
theorem dX12_expectAll_6 : decode cX12_expectAll 6 = .ok (.invokevirtual 351, 3) := by decide +kernel
theorem dX12_expectAll_9 : decode cX12_expectAll 9 = .ok (.sipush 400, 3) := by decide +kernel
theorem dX12_expectAll_12 : decode cX12_expectAll 12 = .ok (.aload_n 0, 1) := by decide +kernel
theorem dX12_expectAll_13 : decode cX12_expectAll 13 = .ok (.getfield 328, 3) := by decide +kernel
theorem dX12_expectAll_16 : decode cX12_expectAll 16 = .ok (.imul, 1) := by decide +kernel
theorem dX12_expectAll_17 : decode cX12_expectAll 17 = .ok (.istore_n 3, 1) := by decide +kernel
theorem dX12_expectAll_18 : decode cX12_expectAll 18 = .ok (.iload_n 3, 1) := by decide +kernel
theorem dX12_expectAll_19 : decode cX12_expectAll 19 = .ok (.sipush 400, 3) := by decide +kernel
theorem dX12_expectAll_22 : decode cX12_expectAll 22 = .ok (.aload_n 0, 1) := by decide +kernel
theorem dX12_expectAll_23 : decode cX12_expectAll 23 = .ok (.getfield 328, 3) := by decide +kernel
theorem dX12_expectAll_26 : decode cX12_expectAll 26 = .ok (.imul, 1) := by decide +kernel
theorem dX12_expectAll_27 : decode cX12_expectAll 27 = .ok (.aload_n 0, 1) := by decide +kernel
theorem dX12_expectAll_28 : decode cX12_expectAll 28 = .ok (.getfield 117, 3) := by decide +kernel
theorem dX12_expectAll_31 : decode cX12_expectAll 31 = .ok (.aload_n 0, 1) := by decide +kernel
theorem dX12_expectAll_32 : decode cX12_expectAll 32 = .ok (.getfield 328, 3) := by decide +kernel
theorem dX12_expectAll_35 : decode cX12_expectAll 35 = .ok (.iaload, 1) := by decide +kernel
theorem dX12_expectAll_36 : decode cX12_expectAll 36 = .ok (.iadd, 1) := by decide +kernel
theorem dX12_expectAll_37 : decode cX12_expectAll 37 = .ok (.if_icmp .ge 170, 3) := by decide +kernel
theorem dX12_expectAll_40 : decode cX12_expectAll 40 = .ok (.aload_n 0, 1) := by decide +kernel
theorem dX12_expectAll_41 : decode cX12_expectAll 41 = .ok (.sipush 4241, 3) := by decide +kernel
theorem dX12_expectAll_44 : decode cX12_expectAll 44 = .ok (.aload_n 0, 1) := by decide +kernel
theorem dX12_expectAll_45 : decode cX12_expectAll 45 = .ok (.getfield 133, 3) := by decide +kernel
theorem dX12_expectAll_48 : decode cX12_expectAll 48 = .ok (.iload_n 3, 1) := by decide +kernel
theorem dX12_expectAll_49 : decode cX12_expectAll 49 = .ok (.laload, 1) := by decide +kernel
theorem dX12_expectAll_50 : decode cX12_expectAll 50 = .ok (.aload_n 0, 1) := by decide +kernel
theorem dX12_expectAll_51 : decode cX12_expectAll 51 = .ok (.getfield 151, 3) := by decide +kernel
theorem dX12_expectAll_54 : decode cX12_expectAll 54 = .ok (.aload_n 0, 1) := by decide +kernel
theorem dX12_expectAll_55 : decode cX12_expectAll 55 = .ok (.getfield 328, 3) := by decide +kernel
theorem dX12_expectAll_58 : decode cX12_expectAll 58 = .ok (.laload, 1) := by decide +kernel
theorem dX12_expectAll_59 : decode cX12_expectAll 59 = .ok (.invokevirtual 351, 3) := by decide +kernel
theorem dX12_expectAll_62 : decode cX12_expectAll 62 = .ok (.aload_n 0, 1) := by decide +kernel
theorem dX12_expectAll_63 : decode cX12_expectAll 63 = .ok (.getfield 136, 3) := by decide +kernel
theorem dX12_expectAll_66 : decode cX12_expectAll 66 = .ok (.iload_n 3, 1) := by decide +kernel
theorem dX12_expectAll_67 : decode cX12_expectAll 67 = .ok (.iaload, 1) := by decide +kernel
theorem dX12_expectAll_68 : decode cX12_expectAll 68 = .ok (.istore 4, 2) := by decide +kernel
theorem dX12_expectAll_70 : decode cX12_expectAll 70 = .ok (.iload 4, 2) := by decide +kernel
theorem dX12_expectAll_72 : decode cX12_expectAll 72 = .ok (.aload_n 0, 1) := by decide +kernel
theorem dX12_expectAll_73 : decode cX12_expectAll 73 = .ok (.getfield 136, 3) := by decide +kernel
theorem dX12_expectAll_76 : decode cX12_expectAll 76 = .ok (.iload_n 3, 1) := by decide +kernel
theorem dX12_expectAll_77 : decode cX12_expectAll 77 = .ok (.iaload, 1) := by decide +kernel
theorem dX12_expectAll_78 : decode cX12_expectAll 78 = .ok (.aload_n 0, 1) := by decide +kernel
theorem dX12_expectAll_79 : decode cX12_expectAll 79 = .ok (.getfield 139, 3) := by decide +kernel
theorem dX12_expectAll_82 : decode cX12_expectAll 82 = .ok (.iload_n 3, 1) := by decide +kernel
theorem dX12_expectAll_83 : decode cX12_expectAll 83 = .ok (.iaload, 1) := by decide +kernel
theorem dX12_expectAll_84 : decode cX12_expectAll 84 = .ok (.iadd, 1) := by decide +kernel
theorem dX12_expectAll_85 : decode cX12_expectAll 85 = .ok (.if_icmp .ge 106, 3) := by decide +kernel
theorem dX12_expectAll_88 : decode cX12_expectAll 88 = .ok (.aload_n 0, 1) := by decide +kernel
theorem dX12_expectAll_89 : decode cX12_expectAll 89 = .ok (.getfield 142, 3) := by decide +kernel
theorem dX12_expectAll_92 : decode cX12_expectAll 92 = .ok (.iload 4, 2) := by decide +kernel
theorem dX12_expectAll_94 : decode cX12_expectAll 94 = .ok (.iaload, 1) := by decide +kernel
theorem dX12_expectAll_95 : decode cX12_expectAll 95 = .ok (.istore 5, 2) := by decide +kernel
theorem dX12_expectAll_97 : decode cX12_expectAll 97 = .ok (.aload_n 0, 1) := by decide +kernel
theorem dX12_expectAll_98 : decode cX12_expectAll 98 = .ok (.getfield 145, 3) := by decide +kernel
theorem dX12_expectAll_101 : decode cX12_expectAll 101 = .ok (.iload 4, 2) := by decide +kernel
theorem dX12_expectAll_103 : decode cX12_expectAll 103 = .ok (.iaload, 1) := by decide +kernel
theorem dX12_expectAll_104 : decode cX12_expectAll 104 = .ok (.istore 6, 2) := by decide +kernel
theorem dX12_expectAll_106 : decode cX12_expectAll 106 = .ok (.iload 5, 2) := by decide +kernel
theorem dX12_expectAll_108 : decode cX12_expectAll 108 = .ok (.bipush 10, 2) := by decide +kernel
theorem dX12_expectAll_110 : decode cX12_expectAll 110 = .ok (.if_icmp .ge 10, 3) := by decide +kernel
theorem dX12_expectAll_113 : decode cX12_expectAll 113 = .ok (.iload_n 1, 1) := by decide +kernel
theorem dX12_expectAll_114 : decode cX12_expectAll 114 = .ok (.ifCond .eq 38, 3) := by decide +kernel
theorem dX12_expectAll_117 : decode cX12_expectAll 117 = .ok (.goto 7, 3) := by decide +kernel
theorem dX12_expectAll_120 : decode cX12_expectAll 120 = .ok (.iload_n 2, 1) := by decide +kernel
theorem dX12_expectAll_121 : decode cX12_expectAll 121 = .ok (.ifCond .eq 31, 3) := by decide +kernel
theorem dX12_expectAll_124 : decode cX12_expectAll 124 = .ok (.aload_n 0, 1) := by decide +kernel
theorem dX12_expectAll_125 : decode cX12_expectAll 125 = .ok (.sipush 4241, 3) := by decide +kernel
theorem dX12_expectAll_128 : decode cX12_expectAll 128 = .ok (.aload_n 0, 1) := by decide +kernel
theorem dX12_expectAll_129 : decode cX12_expectAll 129 = .ok (.getfield 208, 3) := by decide +kernel
theorem dX12_expectAll_132 : decode cX12_expectAll 132 = .ok (.iload 5, 2) := by decide +kernel
theorem dX12_expectAll_134 : decode cX12_expectAll 134 = .ok (.iaload, 1) := by decide +kernel
theorem dX12_expectAll_135 : decode cX12_expectAll 135 = .ok (.iload 6, 2) := by decide +kernel
theorem dX12_expectAll_137 : decode cX12_expectAll 137 = .ok (.if_icmp .ne 7, 3) := by decide +kernel
theorem dX12_expectAll_140 : decode cX12_expectAll 140 = .ok (.lconst 1, 1) := by decide +kernel
theorem dX12_expectAll_141 : decode cX12_expectAll 141 = .ok (.goto 4, 3) := by decide +kernel
theorem dX12_expectAll_144 : decode cX12_expectAll 144 = .ok (.lconst 0, 1) := by decide +kernel
theorem dX12_expectAll_145 : decode cX12_expectAll 145 = .ok (.lconst 1, 1) := by decide +kernel
theorem dX12_expectAll_146 : decode cX12_expectAll 146 = .ok (.invokevirtual 355, 3) := by decide +kernel
theorem dX12_expectAll_149 : decode cX12_expectAll 149 = .ok (.goto 36, 3) := by decide +kernel
theorem dX12_expectAll_152 : decode cX12_expectAll 152 = .ok (.aload_n 0, 1) := by decide +kernel
theorem dX12_expectAll_153 : decode cX12_expectAll 153 = .ok (.sipush 4241, 3) := by decide +kernel
theorem dX12_expectAll_156 : decode cX12_expectAll 156 = .ok (.aload_n 0, 1) := by decide +kernel
theorem dX12_expectAll_157 : decode cX12_expectAll 157 = .ok (.getfield 199, 3) := by decide +kernel
theorem dX12_expectAll_160 : decode cX12_expectAll 160 = .ok (.iconst 4, 1) := by decide +kernel
theorem dX12_expectAll_161 : decode cX12_expectAll 161 = .ok (.iload 5, 2) := by decide +kernel
theorem dX12_expectAll_163 : decode cX12_expectAll 163 = .ok (.imul, 1) := by decide +kernel
theorem dX12_expectAll_164 : decode cX12_expectAll 164 = .ok (.iload 6, 2) := by decide +kernel
theorem dX12_expectAll_166 : decode cX12_expectAll 166 = .ok (.iadd, 1) := by decide +kernel
theorem dX12_expectAll_167 : decode cX12_expectAll 167 = .ok (.iaload, 1) := by decide +kernel
theorem dX12_expectAll_168 : decode cX12_expectAll 168 = .ok (.i2l, 1) := by decide +kernel
theorem dX12_expectAll_169 : decode cX12_expectAll 169 = .ok (.aload_n 0, 1) := by decide +kernel
theorem dX12_expectAll_170 : decode cX12_expectAll 170 = .ok (.getfield 202, 3) := by decide +kernel
theorem dX12_expectAll_173 : decode cX12_expectAll 173 = .ok (.iconst 4, 1) := by decide +kernel
theorem dX12_expectAll_174 : decode cX12_expectAll 174 = .ok (.iload 5, 2) := by decide +kernel
theorem dX12_expectAll_176 : decode cX12_expectAll 176 = .ok (.imul, 1) := by decide +kernel
theorem dX12_expectAll_177 : decode cX12_expectAll 177 = .ok (.iload 6, 2) := by decide +kernel
theorem dX12_expectAll_179 : decode cX12_expectAll 179 = .ok (.iadd, 1) := by decide +kernel
theorem dX12_expectAll_180 : decode cX12_expectAll 180 = .ok (.iaload, 1) := by decide +kernel
theorem dX12_expectAll_181 : decode cX12_expectAll 181 = .ok (.i2l, 1) := by decide +kernel
theorem dX12_expectAll_182 : decode cX12_expectAll 182 = .ok (.invokevirtual 355, 3) := by decide +kernel
theorem dX12_expectAll_185 : decode cX12_expectAll 185 = .ok (.iinc 4 1, 3) := by decide +kernel
theorem dX12_expectAll_188 : decode cX12_expectAll 188 = .ok (.goto (-118), 3) := by decide +kernel
theorem dX12_expectAll_191 : decode cX12_expectAll 191 = .ok (.aload_n 0, 1) := by decide +kernel
theorem dX12_expectAll_192 : decode cX12_expectAll 192 = .ok (.sipush 4239, 3) := by decide +kernel
theorem dX12_expectAll_195 : decode cX12_expectAll 195 = .ok (.sipush 4241, 3) := by decide +kernel
theorem dX12_expectAll_198 : decode cX12_expectAll 198 = .ok (.invokevirtual 358, 3) := by decide +kernel
theorem dX12_expectAll_201 : decode cX12_expectAll 201 = .ok (.iinc 3 1, 3) := by decide +kernel
theorem dX12_expectAll_204 : decode cX12_expectAll 204 = .ok (.goto (-186), 3) := by decide +kernel
theorem dX12_expectAll_207 : decode cX12_expectAll 207 = .ok (.return_, 1) := by decide +kernel
set_option maxRecDepth 20000 in
theorem ggX12_keep_X12_bigCopy : GoodIn wsX12_keep wsX12_bigCopy := goodIn_s _ [(6, 6), (5, 1), (12, 60)] rfl (by decide +kernel)
set_option maxRecDepth 20000 in
theorem gX12_keep_X12_bigCopy : GoodIn wsX12_keep (wsV RX12 58 RX12 yX12_bigCopy wsX12_bigCopy) := goodIn_app (goodIn_r _ [2, 3, 4, 5] rfl (by decide +kernel)) ggX12_keep_X12_bigCopy
theorem dX12_keep_0 : decode cX12_keep 0 = .ok (.aload_n 0, 1) := by decide +kernel
theorem dX12_keep_1 : decode cX12_keep 1 = .ok (.sipush 4231, 3) := by decide +kernel
theorem dX12_keep_4 : decode cX12_keep 4 = .ok (.iconst 2, 1) := by decide +kernel
theorem dX12_keep_5 : decode cX12_keep 5 = .ok (.iload_n 1, 1) := by decide +kernel
theorem dX12_keep_6 : decode cX12_keep 6 = .ok (.imul, 1) := by decide +kernel
theorem dX12_keep_7 : decode cX12_keep 7 = .ok (.iadd, 1) := by decide +kernel
theorem dX12_keep_8 : decode cX12_keep 8 = .ok (.sipush 4239, 3) := by decide +kernel
theorem dX12_keep_11 : decode cX12_keep 11 = .ok (.invokevirtual 58, 3) := by decide +kernel
theorem dX12_keep_14 : decode cX12_keep 14 = .ok (.aload_n 0, 1) := by decide +kernel
theorem dX12_keep_15 : decode cX12_keep 15 = .ok (.sipush 4231, 3) := by decide +kernel
theorem dX12_keep_18 : decode cX12_keep 18 = .ok (.iconst 2, 1) := by decide +kernel
theorem dX12_keep_19 : decode cX12_keep 19 = .ok (.iload_n 1, 1) := by decide +kernel
theorem dX12_keep_20 : decode cX12_keep 20 = .ok (.imul, 1) := by decide +kernel
theorem dX12_keep_21 : decode cX12_keep 21 = .ok (.iadd, 1) := by decide +kernel
theorem dX12_keep_22 : decode cX12_keep 22 = .ok (.iconst 1, 1) := by decide +kernel
theorem dX12_keep_23 : decode cX12_keep 23 = .ok (.iadd, 1) := by decide +kernel
theorem dX12_keep_24 : decode cX12_keep 24 = .ok (.sipush 4240, 3) := by decide +kernel
theorem dX12_keep_27 : decode cX12_keep 27 = .ok (.invokevirtual 58, 3) := by decide +kernel
theorem dX12_keep_30 : decode cX12_keep 30 = .ok (.aload_n 0, 1) := by decide +kernel
theorem dX12_keep_31 : decode cX12_keep 31 = .ok (.getfield 205, 3) := by decide +kernel
theorem dX12_keep_34 : decode cX12_keep 34 = .ok (.iload_n 1, 1) := by decide +kernel
theorem dX12_keep_35 : decode cX12_keep 35 = .ok (.iconst 1, 1) := by decide +kernel
theorem dX12_keep_36 : decode cX12_keep 36 = .ok (.bastore, 1) := by decide +kernel
theorem dX12_keep_37 : decode cX12_keep 37 = .ok (.return_, 1) := by decide +kernel
set_option maxRecDepth 20000 in
theorem ggX12_expect_X12_isGood : GoodIn wsX12_expect wsX12_isGood := goodIn_s _ [(7, 6), (6, 1), (13, 8), (124, 58)] rfl (by decide +kernel)
set_option maxRecDepth 20000 in
theorem gX12_expect_X12_isGood : GoodIn wsX12_expect (wsV RX12 348 RX12 yX12_isGood wsX12_isGood) := goodIn_app (goodIn_r _ [3, 4, 5, 6] rfl (by decide +kernel)) ggX12_expect_X12_isGood
set_option maxRecDepth 20000 in
theorem ggX12_expect_X12_expectAll : GoodIn wsX12_expect wsX12_expectAll := goodIn_s _ [(24, 1), (15, 1), (25, 8), (9, 1), (8, 1), (33, 3), (6, 1), (36, 83), (124, 58)] rfl (by decide +kernel)
set_option maxRecDepth 20000 in
theorem gX12_expect_X12_expectAll : GoodIn wsX12_expect (wsV RX12 361 RX12 yX12_expectAll wsX12_expectAll) := goodIn_app (goodIn_r _ [21, 22, 23, 6] rfl (by decide +kernel)) ggX12_expect_X12_expectAll
set_option maxRecDepth 20000 in
theorem ggX12_expect_X12_keep : GoodIn wsX12_expect wsX12_keep := goodIn_s _ [(122, 2), (57, 3), (6, 1), (60, 1), (41, 1), (44, 1), (42, 1), (45, 4), (124, 58)] rfl (by decide +kernel)
set_option maxRecDepth 20000 in
theorem gX12_expect_X12_keep : GoodIn wsX12_expect (wsV RX12 365 RX12 yX12_keep wsX12_keep) := goodIn_app (goodIn_r _ [119, 120, 121, 6] rfl (by decide +kernel)) ggX12_expect_X12_keep
theorem dX12_expect_0 : decode cX12_expect 0 = .ok (.aload_n 0, 1) := by decide +kernel
theorem dX12_expect_1 : decode cX12_expect 1 = .ok (.aload_n 0, 1) := by decide +kernel
theorem dX12_expect_2 : decode cX12_expect 2 = .ok (.getfield 331, 3) := by decide +kernel
theorem dX12_expect_5 : decode cX12_expect 5 = .ok (.ifCond .eq 23, 3) := by decide +kernel
theorem dX12_expect_8 : decode cX12_expect 8 = .ok (.aload_n 0, 1) := by decide +kernel
theorem dX12_expect_9 : decode cX12_expect 9 = .ok (.iconst 1, 1) := by decide +kernel
theorem dX12_expect_10 : decode cX12_expect 10 = .ok (.invokevirtual 348, 3) := by decide +kernel
theorem dX12_expect_13 : decode cX12_expect 13 = .ok (.ifCond .eq 15, 3) := by decide +kernel
theorem dX12_expect_16 : decode cX12_expect 16 = .ok (.aload_n 0, 1) := by decide +kernel
theorem dX12_expect_17 : decode cX12_expect 17 = .ok (.iconst 2, 1) := by decide +kernel
theorem dX12_expect_18 : decode cX12_expect 18 = .ok (.invokevirtual 348, 3) := by decide +kernel
theorem dX12_expect_21 : decode cX12_expect 21 = .ok (.ifCond .eq 7, 3) := by decide +kernel
theorem dX12_expect_24 : decode cX12_expect 24 = .ok (.iconst 0, 1) := by decide +kernel
theorem dX12_expect_25 : decode cX12_expect 25 = .ok (.goto 4, 3) := by decide +kernel
theorem dX12_expect_28 : decode cX12_expect 28 = .ok (.iconst 1, 1) := by decide +kernel
theorem dX12_expect_29 : decode cX12_expect 29 = .ok (.putfield 223, 3) := by decide +kernel
theorem dX12_expect_32 : decode cX12_expect 32 = .ok (.aload_n 0, 1) := by decide +kernel
theorem dX12_expect_33 : decode cX12_expect 33 = .ok (.getfield 223, 3) := by decide +kernel
theorem dX12_expect_36 : decode cX12_expect 36 = .ok (.ifCond .ne 14, 3) := by decide +kernel
theorem dX12_expect_39 : decode cX12_expect 39 = .ok (.aload_n 0, 1) := by decide +kernel
theorem dX12_expect_40 : decode cX12_expect 40 = .ok (.iconst 0, 1) := by decide +kernel
theorem dX12_expect_41 : decode cX12_expect 41 = .ok (.iconst 0, 1) := by decide +kernel
theorem dX12_expect_42 : decode cX12_expect 42 = .ok (.invokevirtual 361, 3) := by decide +kernel
theorem dX12_expect_45 : decode cX12_expect 45 = .ok (.aload_n 0, 1) := by decide +kernel
theorem dX12_expect_46 : decode cX12_expect 46 = .ok (.iconst 1, 1) := by decide +kernel
theorem dX12_expect_47 : decode cX12_expect 47 = .ok (.invokevirtual 365, 3) := by decide +kernel
theorem dX12_expect_50 : decode cX12_expect 50 = .ok (.return_, 1) := by decide +kernel
theorem dX12_firstPlan_0 : decode cX12_firstPlan 0 = .ok (.bipush 10, 2) := by decide +kernel
theorem dX12_firstPlan_2 : decode cX12_firstPlan 2 = .ok (.iload_n 1, 1) := by decide +kernel
theorem dX12_firstPlan_3 : decode cX12_firstPlan 3 = .ok (.imul, 1) := by decide +kernel
theorem dX12_firstPlan_4 : decode cX12_firstPlan 4 = .ok (.istore_n 2, 1) := by decide +kernel
theorem dX12_firstPlan_5 : decode cX12_firstPlan 5 = .ok (.iload_n 2, 1) := by decide +kernel
theorem dX12_firstPlan_6 : decode cX12_firstPlan 6 = .ok (.bipush 10, 2) := by decide +kernel
theorem dX12_firstPlan_8 : decode cX12_firstPlan 8 = .ok (.iload_n 1, 1) := by decide +kernel
theorem dX12_firstPlan_9 : decode cX12_firstPlan 9 = .ok (.imul, 1) := by decide +kernel
theorem dX12_firstPlan_10 : decode cX12_firstPlan 10 = .ok (.bipush 10, 2) := by decide +kernel
theorem dX12_firstPlan_12 : decode cX12_firstPlan 12 = .ok (.iadd, 1) := by decide +kernel
theorem dX12_firstPlan_13 : decode cX12_firstPlan 13 = .ok (.if_icmp .ge 16, 3) := by decide +kernel
theorem dX12_firstPlan_16 : decode cX12_firstPlan 16 = .ok (.aload_n 0, 1) := by decide +kernel
theorem dX12_firstPlan_17 : decode cX12_firstPlan 17 = .ok (.getfield 208, 3) := by decide +kernel
theorem dX12_firstPlan_20 : decode cX12_firstPlan 20 = .ok (.iload_n 2, 1) := by decide +kernel
theorem dX12_firstPlan_21 : decode cX12_firstPlan 21 = .ok (.iconst 0, 1) := by decide +kernel
theorem dX12_firstPlan_22 : decode cX12_firstPlan 22 = .ok (.iastore, 1) := by decide +kernel
theorem dX12_firstPlan_23 : decode cX12_firstPlan 23 = .ok (.iinc 2 1, 3) := by decide +kernel
theorem dX12_firstPlan_26 : decode cX12_firstPlan 26 = .ok (.goto (-21), 3) := by decide +kernel
theorem dX12_firstPlan_29 : decode cX12_firstPlan 29 = .ok (.return_, 1) := by decide +kernel
set_option maxRecDepth 20000 in
theorem ggX12_nextPlan_X12_setsOf : GoodIn wsX12_nextPlan wsX12_setsOf := goodIn_s _ [(6, 3), (14, 58)] rfl (by decide +kernel)
set_option maxRecDepth 20000 in
theorem gX12_nextPlan_X12_setsOf : GoodIn wsX12_nextPlan (wsV RX12 338 RX12 yX12_setsOf wsX12_setsOf) := goodIn_app (goodIn_r _ [2, 3, 4, 5] rfl (by decide +kernel)) ggX12_nextPlan_X12_setsOf
set_option maxRecDepth 20000 in
theorem ggX12_nextPlan_X12_movesOf : GoodIn wsX12_nextPlan wsX12_movesOf := goodIn_s _ [(12, 2), (8, 1), (14, 58)] rfl (by decide +kernel)
set_option maxRecDepth 20000 in
theorem gX12_nextPlan_X12_movesOf : GoodIn wsX12_nextPlan (wsV RX12 345 RX12 yX12_movesOf wsX12_movesOf) := goodIn_app (goodIn_r _ [9, 10, 11, 5] rfl (by decide +kernel)) ggX12_nextPlan_X12_movesOf
theorem dX12_nextPlan_0 : decode cX12_nextPlan 0 = .ok (.bipush 10, 2) := by decide +kernel
theorem dX12_nextPlan_2 : decode cX12_nextPlan 2 = .ok (.iload_n 1, 1) := by decide +kernel
theorem dX12_nextPlan_3 : decode cX12_nextPlan 3 = .ok (.imul, 1) := by decide +kernel
theorem dX12_nextPlan_4 : decode cX12_nextPlan 4 = .ok (.aload_n 0, 1) := by decide +kernel
theorem dX12_nextPlan_5 : decode cX12_nextPlan 5 = .ok (.iload_n 1, 1) := by decide +kernel
theorem dX12_nextPlan_6 : decode cX12_nextPlan 6 = .ok (.iconst 1, 1) := by decide +kernel
theorem dX12_nextPlan_7 : decode cX12_nextPlan 7 = .ok (.iadd, 1) := by decide +kernel
theorem dX12_nextPlan_8 : decode cX12_nextPlan 8 = .ok (.invokevirtual 338, 3) := by decide +kernel
theorem dX12_nextPlan_11 : decode cX12_nextPlan 11 = .ok (.iadd, 1) := by decide +kernel
theorem dX12_nextPlan_12 : decode cX12_nextPlan 12 = .ok (.iconst 1, 1) := by decide +kernel
theorem dX12_nextPlan_13 : decode cX12_nextPlan 13 = .ok (.isub, 1) := by decide +kernel
theorem dX12_nextPlan_14 : decode cX12_nextPlan 14 = .ok (.istore_n 2, 1) := by decide +kernel
theorem dX12_nextPlan_15 : decode cX12_nextPlan 15 = .ok (.iload_n 2, 1) := by decide +kernel
theorem dX12_nextPlan_16 : decode cX12_nextPlan 16 = .ok (.bipush 10, 2) := by decide +kernel
theorem dX12_nextPlan_18 : decode cX12_nextPlan 18 = .ok (.iload_n 1, 1) := by decide +kernel
theorem dX12_nextPlan_19 : decode cX12_nextPlan 19 = .ok (.imul, 1) := by decide +kernel
theorem dX12_nextPlan_20 : decode cX12_nextPlan 20 = .ok (.if_icmp .lt 42, 3) := by decide +kernel
theorem dX12_nextPlan_23 : decode cX12_nextPlan 23 = .ok (.aload_n 0, 1) := by decide +kernel
theorem dX12_nextPlan_24 : decode cX12_nextPlan 24 = .ok (.getfield 208, 3) := by decide +kernel
theorem dX12_nextPlan_27 : decode cX12_nextPlan 27 = .ok (.iload_n 2, 1) := by decide +kernel
theorem dX12_nextPlan_28 : decode cX12_nextPlan 28 = .ok (.dup2, 1) := by decide +kernel
theorem dX12_nextPlan_29 : decode cX12_nextPlan 29 = .ok (.iaload, 1) := by decide +kernel
theorem dX12_nextPlan_30 : decode cX12_nextPlan 30 = .ok (.iconst 1, 1) := by decide +kernel
theorem dX12_nextPlan_31 : decode cX12_nextPlan 31 = .ok (.iadd, 1) := by decide +kernel
theorem dX12_nextPlan_32 : decode cX12_nextPlan 32 = .ok (.iastore, 1) := by decide +kernel
theorem dX12_nextPlan_33 : decode cX12_nextPlan 33 = .ok (.aload_n 0, 1) := by decide +kernel
theorem dX12_nextPlan_34 : decode cX12_nextPlan 34 = .ok (.getfield 208, 3) := by decide +kernel
theorem dX12_nextPlan_37 : decode cX12_nextPlan 37 = .ok (.iload_n 2, 1) := by decide +kernel
theorem dX12_nextPlan_38 : decode cX12_nextPlan 38 = .ok (.iaload, 1) := by decide +kernel
theorem dX12_nextPlan_39 : decode cX12_nextPlan 39 = .ok (.aload_n 0, 1) := by decide +kernel
theorem dX12_nextPlan_40 : decode cX12_nextPlan 40 = .ok (.iload_n 2, 1) := by decide +kernel
theorem dX12_nextPlan_41 : decode cX12_nextPlan 41 = .ok (.invokevirtual 345, 3) := by decide +kernel
theorem dX12_nextPlan_44 : decode cX12_nextPlan 44 = .ok (.if_icmp .ge 5, 3) := by decide +kernel
theorem dX12_nextPlan_47 : decode cX12_nextPlan 47 = .ok (.iconst 1, 1) := by decide +kernel
theorem dX12_nextPlan_48 : decode cX12_nextPlan 48 = .ok (.ireturn, 1) := by decide +kernel
theorem dX12_nextPlan_49 : decode cX12_nextPlan 49 = .ok (.aload_n 0, 1) := by decide +kernel
theorem dX12_nextPlan_50 : decode cX12_nextPlan 50 = .ok (.getfield 208, 3) := by decide +kernel
theorem dX12_nextPlan_53 : decode cX12_nextPlan 53 = .ok (.iload_n 2, 1) := by decide +kernel
theorem dX12_nextPlan_54 : decode cX12_nextPlan 54 = .ok (.iconst 0, 1) := by decide +kernel
theorem dX12_nextPlan_55 : decode cX12_nextPlan 55 = .ok (.iastore, 1) := by decide +kernel
theorem dX12_nextPlan_56 : decode cX12_nextPlan 56 = .ok (.iinc 2 (-1), 3) := by decide +kernel
theorem dX12_nextPlan_59 : decode cX12_nextPlan 59 = .ok (.goto (-44), 3) := by decide +kernel
theorem dX12_nextPlan_62 : decode cX12_nextPlan 62 = .ok (.iconst 0, 1) := by decide +kernel
theorem dX12_nextPlan_63 : decode cX12_nextPlan 63 = .ok (.ireturn, 1) := by decide +kernel
set_option maxRecDepth 20000 in
theorem ggX12_judge_X12_isGood : GoodIn wsX12_judge wsX12_isGood := goodIn_s _ [(10, 6), (9, 1), (16, 8), (145, 58)] rfl (by decide +kernel)
set_option maxRecDepth 20000 in
theorem gX12_judge_X12_isGood : GoodIn wsX12_judge (wsV RX12 348 RX12 yX12_isGood wsX12_isGood) := goodIn_app (goodIn_r _ [6, 7, 8, 9] rfl (by decide +kernel)) ggX12_judge_X12_isGood
set_option maxRecDepth 20000 in
theorem ggX12_judge_X12_firstPlan : GoodIn wsX12_judge wsX12_firstPlan := goodIn_s _ [(27, 1), (5, 1), (145, 58)] rfl (by decide +kernel)
