theorem dX5_goThroughDraw_208 : decode cX5_goThroughDraw 208 = .ok (.iload 7, 2) := by decide +kernel
theorem dX5_goThroughDraw_210 : decode cX5_goThroughDraw 210 = .ok (.invokevirtual 81, 3) := by decide +kernel
theorem dX5_goThroughDraw_213 : decode cX5_goThroughDraw 213 = .ok (.ifCond .ne 5, 3) := by decide +kernel
theorem dX5_goThroughDraw_216 : decode cX5_goThroughDraw 216 = .ok (.iconst 0, 1) := by decide +kernel
theorem dX5_goThroughDraw_217 : decode cX5_goThroughDraw 217 = .ok (.ireturn, 1) := by decide +kernel
theorem dX5_goThroughDraw_218 : decode cX5_goThroughDraw 218 = .ok (.iinc 9 1, 3) := by decide +kernel
theorem dX5_goThroughDraw_221 : decode cX5_goThroughDraw 221 = .ok (.iinc 14 1, 3) := by decide +kernel
theorem dX5_goThroughDraw_224 : decode cX5_goThroughDraw 224 = .ok (.goto (-165), 3) := by decide +kernel
theorem dX5_goThroughDraw_227 : decode cX5_goThroughDraw 227 = .ok (.aload_n 0, 1) := by decide +kernel
theorem dX5_goThroughDraw_228 : decode cX5_goThroughDraw 228 = .ok (.getfield 21, 3) := by decide +kernel
theorem dX5_goThroughDraw_231 : decode cX5_goThroughDraw 231 = .ok (.invokevirtual 95, 3) := by decide +kernel
theorem dX5_goThroughDraw_234 : decode cX5_goThroughDraw 234 = .ok (.aload_n 0, 1) := by decide +kernel
theorem dX5_goThroughDraw_235 : decode cX5_goThroughDraw 235 = .ok (.iload 8, 2) := by decide +kernel
theorem dX5_goThroughDraw_237 : decode cX5_goThroughDraw 237 = .ok (.iload 9, 2) := by decide +kernel
theorem dX5_goThroughDraw_239 : decode cX5_goThroughDraw 239 = .ok (.lload 10, 2) := by decide +kernel
theorem dX5_goThroughDraw_241 : decode cX5_goThroughDraw 241 = .ok (.lload 12, 2) := by decide +kernel
theorem dX5_goThroughDraw_243 : decode cX5_goThroughDraw 243 = .ok (.invokevirtual 149, 3) := by decide +kernel
theorem dX5_goThroughDraw_246 : decode cX5_goThroughDraw 246 = .ok (.ireturn, 1) := by decide +kernel
set_option maxRecDepth 20000 in
theorem ggX5_endDraw_X5_refuse : GoodIn wsX5_endDraw wsX5_refuse := goodIn_s _ [(6, 16)] rfl (by decide +kernel)
set_option maxRecDepth 20000 in
theorem gX5_endDraw_X5_refuse : GoodIn wsX5_endDraw (wsV RX5 77 RX5 yX5_refuse wsX5_refuse) := goodIn_app (goodIn_r _ [2, 3, 4, 5] rfl (by decide +kernel)) ggX5_endDraw_X5_refuse
theorem dX5_endDraw_0 : decode cX5_endDraw 0 = .ok (.iload_n 2, 1) := by decide +kernel
theorem dX5_endDraw_1 : decode cX5_endDraw 1 = .ok (.bipush 8, 2) := by decide +kernel
theorem dX5_endDraw_3 : decode cX5_endDraw 3 = .ok (.if_icmp .le 10, 3) := by decide +kernel
theorem dX5_endDraw_6 : decode cX5_endDraw 6 = .ok (.aload_n 0, 1) := by decide +kernel
theorem dX5_endDraw_7 : decode cX5_endDraw 7 = .ok (.iconst 2, 1) := by decide +kernel
theorem dX5_endDraw_8 : decode cX5_endDraw 8 = .ok (.iload_n 1, 1) := by decide +kernel
theorem dX5_endDraw_9 : decode cX5_endDraw 9 = .ok (.invokevirtual 77, 3) := by decide +kernel
theorem dX5_endDraw_12 : decode cX5_endDraw 12 = .ok (.ireturn, 1) := by decide +kernel
theorem dX5_endDraw_13 : decode cX5_endDraw 13 = .ok (.lload_n 3, 1) := by decide +kernel
theorem dX5_endDraw_14 : decode cX5_endDraw 14 = .ok (.ldc2_w 124, 3) := by decide +kernel
theorem dX5_endDraw_17 : decode cX5_endDraw 17 = .ok (.lcmp, 1) := by decide +kernel
theorem dX5_endDraw_18 : decode cX5_endDraw 18 = .ok (.ifCond .lt 11, 3) := by decide +kernel
theorem dX5_endDraw_21 : decode cX5_endDraw 21 = .ok (.aload_n 0, 1) := by decide +kernel
theorem dX5_endDraw_22 : decode cX5_endDraw 22 = .ok (.bipush 6, 2) := by decide +kernel
theorem dX5_endDraw_24 : decode cX5_endDraw 24 = .ok (.iload_n 1, 1) := by decide +kernel
theorem dX5_endDraw_25 : decode cX5_endDraw 25 = .ok (.invokevirtual 77, 3) := by decide +kernel
theorem dX5_endDraw_28 : decode cX5_endDraw 28 = .ok (.ireturn, 1) := by decide +kernel
theorem dX5_endDraw_29 : decode cX5_endDraw 29 = .ok (.lload 5, 2) := by decide +kernel
theorem dX5_endDraw_31 : decode cX5_endDraw 31 = .ok (.lload_n 3, 1) := by decide +kernel
theorem dX5_endDraw_32 : decode cX5_endDraw 32 = .ok (.lcmp, 1) := by decide +kernel
theorem dX5_endDraw_33 : decode cX5_endDraw 33 = .ok (.ifCond .eq 12, 3) := by decide +kernel
theorem dX5_endDraw_36 : decode cX5_endDraw 36 = .ok (.aload_n 0, 1) := by decide +kernel
theorem dX5_endDraw_37 : decode cX5_endDraw 37 = .ok (.iconst 3, 1) := by decide +kernel
theorem dX5_endDraw_38 : decode cX5_endDraw 38 = .ok (.iload_n 1, 1) := by decide +kernel
theorem dX5_endDraw_39 : decode cX5_endDraw 39 = .ok (.invokevirtual 77, 3) := by decide +kernel
theorem dX5_endDraw_42 : decode cX5_endDraw 42 = .ok (.ifCond .eq 7, 3) := by decide +kernel
theorem dX5_endDraw_45 : decode cX5_endDraw 45 = .ok (.iconst 1, 1) := by decide +kernel
theorem dX5_endDraw_46 : decode cX5_endDraw 46 = .ok (.goto 4, 3) := by decide +kernel
theorem dX5_endDraw_49 : decode cX5_endDraw 49 = .ok (.iconst 0, 1) := by decide +kernel
theorem dX5_endDraw_50 : decode cX5_endDraw 50 = .ok (.ireturn, 1) := by decide +kernel
set_option maxRecDepth 20000 in
theorem ggX5_goThroughChoice_X10_advance : GoodIn wsX5_goThroughChoice wsX10_advance := goodIn_s _ [(11, 9), (10, 1), (20, 5), (124, 6)] rfl (by decide +kernel)
set_option maxRecDepth 20000 in
theorem gX5_goThroughChoice_X10_advance : GoodIn wsX5_goThroughChoice (wsV RX5 95 RX10 yX10_advance wsX10_advance) := goodIn_app (goodIn_r _ [7, 8, 9, 10] rfl (by decide +kernel)) ggX5_goThroughChoice_X10_advance
set_option maxRecDepth 20000 in
theorem ggX5_goThroughChoice_X5_enterSet : GoodIn wsX5_goThroughChoice wsX5_enterSet := goodIn_s _ [(29, 1), (1, 1), (30, 14), (28, 1), (44, 17), (111, 19), (134, 8)] rfl (by decide +kernel)
set_option maxRecDepth 20000 in
theorem gX5_goThroughChoice_X5_enterSet : GoodIn wsX5_goThroughChoice (wsV RX5 157 RX5 yX5_enterSet wsX5_enterSet) := goodIn_app (goodIn_r _ [25, 26, 27, 28] rfl (by decide +kernel)) ggX5_goThroughChoice_X5_enterSet
set_option maxRecDepth 20000 in
theorem ggX5_goThroughChoice_X7_deed : GoodIn wsX5_goThroughChoice wsX7_deed := goodIn_r _ [63] rfl (by decide +kernel)
set_option maxRecDepth 20000 in
theorem gX5_goThroughChoice_X7_deed : GoodIn wsX5_goThroughChoice (va_wsS RX5 161 yX7_deed wsX7_deed) := goodIn_app (goodIn_r _ [61, 62, 37] rfl (by decide +kernel)) ggX5_goThroughChoice_X7_deed
set_option maxRecDepth 20000 in
theorem ggX5_goThroughChoice_X5_goThroughNode : GoodIn wsX5_goThroughChoice wsX5_goThroughNode := goodIn_s _ [(95, 1), (4, 1), (6, 1), (1, 3), (41, 3), (28, 1), (44, 3), (96, 4), (32, 1), (100, 1), (52, 3), (73, 2), (101, 4), (7, 18), (75, 4), (30, 1), (79, 8), (105, 6), (0, 1), (5, 1), (25, 3), (29, 1), (31, 1), (33, 8), (47, 5), (55, 18), (87, 8), (111, 31)] rfl (by decide +kernel)
set_option maxRecDepth 20000 in
theorem gX5_goThroughChoice_X5_goThroughNode : GoodIn wsX5_goThroughChoice (wsV RX5 81 RX5 yX5_goThroughNode wsX5_goThroughNode) := goodIn_app (goodIn_r _ [64, 65, 66, 28] rfl (by decide +kernel)) ggX5_goThroughChoice_X5_goThroughNode
set_option maxRecDepth 20000 in
theorem ggX5_goThroughChoice_X5_endChoice : GoodIn wsX5_goThroughChoice wsX5_endChoice := goodIn_s _ [(70, 2), (41, 3), (28, 1), (44, 3), (134, 8), (111, 13)] rfl (by decide +kernel)
set_option maxRecDepth 20000 in
theorem gX5_goThroughChoice_X5_endChoice : GoodIn wsX5_goThroughChoice (wsV RX5 166 RX5 yX5_endChoice wsX5_endChoice) := goodIn_app (goodIn_r _ [67, 68, 69, 28] rfl (by decide +kernel)) ggX5_goThroughChoice_X5_endChoice
theorem dX5_goThroughChoice_0 : decode cX5_goThroughChoice 0 = .ok (.aload_n 0, 1) := by decide +kernel
theorem dX5_goThroughChoice_1 : decode cX5_goThroughChoice 1 = .ok (.getfield 21, 3) := by decide +kernel
theorem dX5_goThroughChoice_4 : decode cX5_goThroughChoice 4 = .ok (.getfield 74, 3) := by decide +kernel
theorem dX5_goThroughChoice_7 : decode cX5_goThroughChoice 7 = .ok (.istore 8, 2) := by decide +kernel
theorem dX5_goThroughChoice_9 : decode cX5_goThroughChoice 9 = .ok (.aload_n 0, 1) := by decide +kernel
theorem dX5_goThroughChoice_10 : decode cX5_goThroughChoice 10 = .ok (.getfield 21, 3) := by decide +kernel
theorem dX5_goThroughChoice_13 : decode cX5_goThroughChoice 13 = .ok (.getfield 88, 3) := by decide +kernel
theorem dX5_goThroughChoice_16 : decode cX5_goThroughChoice 16 = .ok (.bipush 65, 2) := by decide +kernel
theorem dX5_goThroughChoice_18 : decode cX5_goThroughChoice 18 = .ok (.if_icmp .ne 7, 3) := by decide +kernel
theorem dX5_goThroughChoice_21 : decode cX5_goThroughChoice 21 = .ok (.iconst 0, 1) := by decide +kernel
theorem dX5_goThroughChoice_22 : decode cX5_goThroughChoice 22 = .ok (.goto 4, 3) := by decide +kernel
theorem dX5_goThroughChoice_25 : decode cX5_goThroughChoice 25 = .ok (.iconst 1, 1) := by decide +kernel
theorem dX5_goThroughChoice_26 : decode cX5_goThroughChoice 26 = .ok (.istore 9, 2) := by decide +kernel
theorem dX5_goThroughChoice_28 : decode cX5_goThroughChoice 28 = .ok (.aload_n 0, 1) := by decide +kernel
theorem dX5_goThroughChoice_29 : decode cX5_goThroughChoice 29 = .ok (.getfield 28, 3) := by decide +kernel
theorem dX5_goThroughChoice_32 : decode cX5_goThroughChoice 32 = .ok (.getfield 153, 3) := by decide +kernel
theorem dX5_goThroughChoice_35 : decode cX5_goThroughChoice 35 = .ok (.iload 9, 2) := by decide +kernel
theorem dX5_goThroughChoice_37 : decode cX5_goThroughChoice 37 = .ok (.aaload, 1) := by decide +kernel
theorem dX5_goThroughChoice_38 : decode cX5_goThroughChoice 38 = .ok (.astore 10, 2) := by decide +kernel
theorem dX5_goThroughChoice_40 : decode cX5_goThroughChoice 40 = .ok (.aload_n 0, 1) := by decide +kernel
theorem dX5_goThroughChoice_41 : decode cX5_goThroughChoice 41 = .ok (.getfield 21, 3) := by decide +kernel
theorem dX5_goThroughChoice_44 : decode cX5_goThroughChoice 44 = .ok (.invokevirtual 95, 3) := by decide +kernel
theorem dX5_goThroughChoice_47 : decode cX5_goThroughChoice 47 = .ok (.aload_n 0, 1) := by decide +kernel
theorem dX5_goThroughChoice_48 : decode cX5_goThroughChoice 48 = .ok (.aload 10, 2) := by decide +kernel
theorem dX5_goThroughChoice_50 : decode cX5_goThroughChoice 50 = .ok (.iload 8, 2) := by decide +kernel
theorem dX5_goThroughChoice_52 : decode cX5_goThroughChoice 52 = .ok (.lload 4, 2) := by decide +kernel
theorem dX5_goThroughChoice_54 : decode cX5_goThroughChoice 54 = .ok (.iload 9, 2) := by decide +kernel
theorem dX5_goThroughChoice_56 : decode cX5_goThroughChoice 56 = .ok (.ifCond .ne 8, 3) := by decide +kernel
theorem dX5_goThroughChoice_59 : decode cX5_goThroughChoice 59 = .ok (.iload 6, 2) := by decide +kernel
theorem dX5_goThroughChoice_61 : decode cX5_goThroughChoice 61 = .ok (.goto 5, 3) := by decide +kernel
theorem dX5_goThroughChoice_64 : decode cX5_goThroughChoice 64 = .ok (.iload 7, 2) := by decide +kernel
theorem dX5_goThroughChoice_66 : decode cX5_goThroughChoice 66 = .ok (.invokevirtual 157, 3) := by decide +kernel
theorem dX5_goThroughChoice_69 : decode cX5_goThroughChoice 69 = .ok (.istore 11, 2) := by decide +kernel
theorem dX5_goThroughChoice_71 : decode cX5_goThroughChoice 71 = .ok (.iload 11, 2) := by decide +kernel
theorem dX5_goThroughChoice_73 : decode cX5_goThroughChoice 73 = .ok (.iconst (-1), 1) := by decide +kernel
theorem dX5_goThroughChoice_74 : decode cX5_goThroughChoice 74 = .ok (.if_icmp .ne 5, 3) := by decide +kernel
theorem dX5_goThroughChoice_77 : decode cX5_goThroughChoice 77 = .ok (.iconst 0, 1) := by decide +kernel
theorem dX5_goThroughChoice_78 : decode cX5_goThroughChoice 78 = .ok (.ireturn, 1) := by decide +kernel
theorem dX5_goThroughChoice_79 : decode cX5_goThroughChoice 79 = .ok (.aload_n 0, 1) := by decide +kernel
theorem dX5_goThroughChoice_80 : decode cX5_goThroughChoice 80 = .ok (.getfield 28, 3) := by decide +kernel
theorem dX5_goThroughChoice_83 : decode cX5_goThroughChoice 83 = .ok (.getfield 111, 3) := by decide +kernel
theorem dX5_goThroughChoice_86 : decode cX5_goThroughChoice 86 = .ok (.iconst 3, 1) := by decide +kernel
theorem dX5_goThroughChoice_87 : decode cX5_goThroughChoice 87 = .ok (.dup2, 1) := by decide +kernel
theorem dX5_goThroughChoice_88 : decode cX5_goThroughChoice 88 = .ok (.iaload, 1) := by decide +kernel
theorem dX5_goThroughChoice_89 : decode cX5_goThroughChoice 89 = .ok (.iconst 1, 1) := by decide +kernel
theorem dX5_goThroughChoice_90 : decode cX5_goThroughChoice 90 = .ok (.iadd, 1) := by decide +kernel
theorem dX5_goThroughChoice_91 : decode cX5_goThroughChoice 91 = .ok (.iastore, 1) := by decide +kernel
theorem dX5_goThroughChoice_92 : decode cX5_goThroughChoice 92 = .ok (.aload_n 0, 1) := by decide +kernel
theorem dX5_goThroughChoice_93 : decode cX5_goThroughChoice 93 = .ok (.getfield 21, 3) := by decide +kernel
theorem dX5_goThroughChoice_96 : decode cX5_goThroughChoice 96 = .ok (.invokevirtual 95, 3) := by decide +kernel
theorem dX5_goThroughChoice_99 : decode cX5_goThroughChoice 99 = .ok (.iconst 0, 1) := by decide +kernel
theorem dX5_goThroughChoice_100 : decode cX5_goThroughChoice 100 = .ok (.istore 12, 2) := by decide +kernel
theorem dX5_goThroughChoice_102 : decode cX5_goThroughChoice 102 = .ok (.iconst 0, 1) := by decide +kernel
theorem dX5_goThroughChoice_103 : decode cX5_goThroughChoice 103 = .ok (.istore 13, 2) := by decide +kernel
theorem dX5_goThroughChoice_105 : decode cX5_goThroughChoice 105 = .ok (.iload 13, 2) := by decide +kernel
theorem dX5_goThroughChoice_107 : decode cX5_goThroughChoice 107 = .ok (.sipush 400, 3) := by decide +kernel
theorem dX5_goThroughChoice_110 : decode cX5_goThroughChoice 110 = .ok (.if_icmp .ge 88, 3) := by decide +kernel
theorem dX5_goThroughChoice_113 : decode cX5_goThroughChoice 113 = .ok (.aload_n 0, 1) := by decide +kernel
theorem dX5_goThroughChoice_114 : decode cX5_goThroughChoice 114 = .ok (.getfield 21, 3) := by decide +kernel
theorem dX5_goThroughChoice_117 : decode cX5_goThroughChoice 117 = .ok (.getfield 88, 3) := by decide +kernel
theorem dX5_goThroughChoice_120 : decode cX5_goThroughChoice 120 = .ok (.bipush 41, 2) := by decide +kernel
theorem dX5_goThroughChoice_122 : decode cX5_goThroughChoice 122 = .ok (.if_icmp .eq 76, 3) := by decide +kernel
theorem dX5_goThroughChoice_125 : decode cX5_goThroughChoice 125 = .ok (.aload_n 0, 1) := by decide +kernel
theorem dX5_goThroughChoice_126 : decode cX5_goThroughChoice 126 = .ok (.getfield 21, 3) := by decide +kernel
theorem dX5_goThroughChoice_129 : decode cX5_goThroughChoice 129 = .ok (.invokevirtual 95, 3) := by decide +kernel
theorem dX5_goThroughChoice_132 : decode cX5_goThroughChoice 132 = .ok (.iload 11, 2) := by decide +kernel
theorem dX5_goThroughChoice_134 : decode cX5_goThroughChoice 134 = .ok (.iload 12, 2) := by decide +kernel
theorem dX5_goThroughChoice_136 : decode cX5_goThroughChoice 136 = .ok (.invokestatic 161, 3) := by decide +kernel
theorem dX5_goThroughChoice_139 : decode cX5_goThroughChoice 139 = .ok (.istore 14, 2) := by decide +kernel
theorem dX5_goThroughChoice_141 : decode cX5_goThroughChoice 141 = .ok (.iload 9, 2) := by decide +kernel
theorem dX5_goThroughChoice_143 : decode cX5_goThroughChoice 143 = .ok (.ifCond .ne 8, 3) := by decide +kernel
theorem dX5_goThroughChoice_146 : decode cX5_goThroughChoice 146 = .ok (.iload 14, 2) := by decide +kernel
theorem dX5_goThroughChoice_148 : decode cX5_goThroughChoice 148 = .ok (.goto 5, 3) := by decide +kernel
theorem dX5_goThroughChoice_151 : decode cX5_goThroughChoice 151 = .ok (.iload 6, 2) := by decide +kernel
theorem dX5_goThroughChoice_153 : decode cX5_goThroughChoice 153 = .ok (.istore 15, 2) := by decide +kernel
theorem dX5_goThroughChoice_155 : decode cX5_goThroughChoice 155 = .ok (.iload 9, 2) := by decide +kernel
theorem dX5_goThroughChoice_157 : decode cX5_goThroughChoice 157 = .ok (.iconst 1, 1) := by decide +kernel
theorem dX5_goThroughChoice_158 : decode cX5_goThroughChoice 158 = .ok (.if_icmp .ne 8, 3) := by decide +kernel
theorem dX5_goThroughChoice_161 : decode cX5_goThroughChoice 161 = .ok (.iload 14, 2) := by decide +kernel
theorem dX5_goThroughChoice_163 : decode cX5_goThroughChoice 163 = .ok (.goto 5, 3) := by decide +kernel
theorem dX5_goThroughChoice_166 : decode cX5_goThroughChoice 166 = .ok (.iload 7, 2) := by decide +kernel
theorem dX5_goThroughChoice_168 : decode cX5_goThroughChoice 168 = .ok (.istore 16, 2) := by decide +kernel
theorem dX5_goThroughChoice_170 : decode cX5_goThroughChoice 170 = .ok (.aload_n 0, 1) := by decide +kernel
theorem dX5_goThroughChoice_171 : decode cX5_goThroughChoice 171 = .ok (.iload_n 1, 1) := by decide +kernel
theorem dX5_goThroughChoice_172 : decode cX5_goThroughChoice 172 = .ok (.iconst 1, 1) := by decide +kernel
theorem dX5_goThroughChoice_173 : decode cX5_goThroughChoice 173 = .ok (.iadd, 1) := by decide +kernel
theorem dX5_goThroughChoice_174 : decode cX5_goThroughChoice 174 = .ok (.lload_n 2, 1) := by decide +kernel
theorem dX5_goThroughChoice_175 : decode cX5_goThroughChoice 175 = .ok (.lload 4, 2) := by decide +kernel
theorem dX5_goThroughChoice_177 : decode cX5_goThroughChoice 177 = .ok (.iload 15, 2) := by decide +kernel
theorem dX5_goThroughChoice_179 : decode cX5_goThroughChoice 179 = .ok (.iload 16, 2) := by decide +kernel
theorem dX5_goThroughChoice_181 : decode cX5_goThroughChoice 181 = .ok (.invokevirtual 81, 3) := by decide +kernel
theorem dX5_goThroughChoice_184 : decode cX5_goThroughChoice 184 = .ok (.ifCond .ne 5, 3) := by decide +kernel
theorem dX5_goThroughChoice_187 : decode cX5_goThroughChoice 187 = .ok (.iconst 0, 1) := by decide +kernel
theorem dX5_goThroughChoice_188 : decode cX5_goThroughChoice 188 = .ok (.ireturn, 1) := by decide +kernel
theorem dX5_goThroughChoice_189 : decode cX5_goThroughChoice 189 = .ok (.iinc 12 1, 3) := by decide +kernel
theorem dX5_goThroughChoice_192 : decode cX5_goThroughChoice 192 = .ok (.iinc 13 1, 3) := by decide +kernel
theorem dX5_goThroughChoice_195 : decode cX5_goThroughChoice 195 = .ok (.goto (-90), 3) := by decide +kernel
theorem dX5_goThroughChoice_198 : decode cX5_goThroughChoice 198 = .ok (.aload_n 0, 1) := by decide +kernel
theorem dX5_goThroughChoice_199 : decode cX5_goThroughChoice 199 = .ok (.getfield 21, 3) := by decide +kernel
theorem dX5_goThroughChoice_202 : decode cX5_goThroughChoice 202 = .ok (.invokevirtual 95, 3) := by decide +kernel
theorem dX5_goThroughChoice_205 : decode cX5_goThroughChoice 205 = .ok (.aload_n 0, 1) := by decide +kernel
theorem dX5_goThroughChoice_206 : decode cX5_goThroughChoice 206 = .ok (.iload 8, 2) := by decide +kernel
theorem dX5_goThroughChoice_208 : decode cX5_goThroughChoice 208 = .ok (.aload 10, 2) := by decide +kernel
theorem dX5_goThroughChoice_210 : decode cX5_goThroughChoice 210 = .ok (.iload 11, 2) := by decide +kernel
theorem dX5_goThroughChoice_212 : decode cX5_goThroughChoice 212 = .ok (.iload 12, 2) := by decide +kernel
theorem dX5_goThroughChoice_214 : decode cX5_goThroughChoice 214 = .ok (.invokevirtual 166, 3) := by decide +kernel
theorem dX5_goThroughChoice_217 : decode cX5_goThroughChoice 217 = .ok (.ireturn, 1) := by decide +kernel
set_option maxRecDepth 20000 in
theorem ggX5_enterSet_X7_find : GoodIn wsX5_enterSet wsX7_find := goodIn_s _ [(10, 3), (53, 8)] rfl (by decide +kernel)
set_option maxRecDepth 20000 in
theorem gX5_enterSet_X7_find : GoodIn wsX5_enterSet (wsV RX5 170 RX7 yX7_find wsX7_find) := goodIn_app (goodIn_r _ [6, 7, 8, 9] rfl (by decide +kernel)) ggX5_enterSet_X7_find
set_option maxRecDepth 20000 in
theorem ggX5_enterSet_X5_refuse : GoodIn wsX5_enterSet wsX5_refuse := goodIn_s _ [(17, 3), (34, 13)] rfl (by decide +kernel)
set_option maxRecDepth 20000 in
theorem gX5_enterSet_X5_refuse : GoodIn wsX5_enterSet (wsV RX5 77 RX5 yX5_refuse wsX5_refuse) := goodIn_app (goodIn_r _ [13, 14, 15, 16] rfl (by decide +kernel)) ggX5_enterSet_X5_refuse
set_option maxRecDepth 20000 in
theorem ggX5_enterSet_X7_begin : GoodIn wsX5_enterSet wsX7_begin := goodIn_s _ [(23, 1), (11, 1), (24, 4), (12, 1), (28, 5), (9, 1), (33, 1), (53, 8)] rfl (by decide +kernel)
set_option maxRecDepth 20000 in
theorem gX5_enterSet_X7_begin : GoodIn wsX5_enterSet (wsV RX5 176 RX7 yX7_begin wsX7_begin) := goodIn_app (goodIn_r _ [20, 21, 22, 9] rfl (by decide +kernel)) ggX5_enterSet_X7_begin
theorem dX5_enterSet_0 : decode cX5_enterSet 0 = .ok (.aload_n 1, 1) := by decide +kernel
theorem dX5_enterSet_1 : decode cX5_enterSet 1 = .ok (.aload_n 0, 1) := by decide +kernel
theorem dX5_enterSet_2 : decode cX5_enterSet 2 = .ok (.getfield 21, 3) := by decide +kernel
theorem dX5_enterSet_5 : decode cX5_enterSet 5 = .ok (.getfield 143, 3) := by decide +kernel
theorem dX5_enterSet_8 : decode cX5_enterSet 8 = .ok (.invokevirtual 170, 3) := by decide +kernel
theorem dX5_enterSet_11 : decode cX5_enterSet 11 = .ok (.istore 6, 2) := by decide +kernel
theorem dX5_enterSet_13 : decode cX5_enterSet 13 = .ok (.iload 6, 2) := by decide +kernel
theorem dX5_enterSet_15 : decode cX5_enterSet 15 = .ok (.iconst (-1), 1) := by decide +kernel
theorem dX5_enterSet_16 : decode cX5_enterSet 16 = .ok (.if_icmp .ne 21, 3) := by decide +kernel
theorem dX5_enterSet_19 : decode cX5_enterSet 19 = .ok (.aload_n 1, 1) := by decide +kernel
theorem dX5_enterSet_20 : decode cX5_enterSet 20 = .ok (.getfield 173, 3) := by decide +kernel
theorem dX5_enterSet_23 : decode cX5_enterSet 23 = .ok (.bipush 10, 2) := by decide +kernel
theorem dX5_enterSet_25 : decode cX5_enterSet 25 = .ok (.if_icmp .lt 12, 3) := by decide +kernel
theorem dX5_enterSet_28 : decode cX5_enterSet 28 = .ok (.aload_n 0, 1) := by decide +kernel
theorem dX5_enterSet_29 : decode cX5_enterSet 29 = .ok (.iconst 2, 1) := by decide +kernel
theorem dX5_enterSet_30 : decode cX5_enterSet 30 = .ok (.iload_n 2, 1) := by decide +kernel
theorem dX5_enterSet_31 : decode cX5_enterSet 31 = .ok (.invokevirtual 77, 3) := by decide +kernel
theorem dX5_enterSet_34 : decode cX5_enterSet 34 = .ok (.pop, 1) := by decide +kernel
theorem dX5_enterSet_35 : decode cX5_enterSet 35 = .ok (.iconst (-1), 1) := by decide +kernel
theorem dX5_enterSet_36 : decode cX5_enterSet 36 = .ok (.ireturn, 1) := by decide +kernel
theorem dX5_enterSet_37 : decode cX5_enterSet 37 = .ok (.lload_n 3, 1) := by decide +kernel
theorem dX5_enterSet_38 : decode cX5_enterSet 38 = .ok (.ldc2_w 124, 3) := by decide +kernel
theorem dX5_enterSet_41 : decode cX5_enterSet 41 = .ok (.lcmp, 1) := by decide +kernel
theorem dX5_enterSet_42 : decode cX5_enterSet 42 = .ok (.ifCond .lt 13, 3) := by decide +kernel
theorem dX5_enterSet_45 : decode cX5_enterSet 45 = .ok (.aload_n 0, 1) := by decide +kernel
theorem dX5_enterSet_46 : decode cX5_enterSet 46 = .ok (.bipush 6, 2) := by decide +kernel
theorem dX5_enterSet_48 : decode cX5_enterSet 48 = .ok (.iload_n 2, 1) := by decide +kernel
theorem dX5_enterSet_49 : decode cX5_enterSet 49 = .ok (.invokevirtual 77, 3) := by decide +kernel
theorem dX5_enterSet_52 : decode cX5_enterSet 52 = .ok (.pop, 1) := by decide +kernel
theorem dX5_enterSet_53 : decode cX5_enterSet 53 = .ok (.iconst (-1), 1) := by decide +kernel
theorem dX5_enterSet_54 : decode cX5_enterSet 54 = .ok (.ireturn, 1) := by decide +kernel
theorem dX5_enterSet_55 : decode cX5_enterSet 55 = .ok (.iload 6, 2) := by decide +kernel
theorem dX5_enterSet_57 : decode cX5_enterSet 57 = .ok (.iconst (-1), 1) := by decide +kernel
theorem dX5_enterSet_58 : decode cX5_enterSet 58 = .ok (.if_icmp .ne 17, 3) := by decide +kernel
theorem dX5_enterSet_61 : decode cX5_enterSet 61 = .ok (.aload_n 1, 1) := by decide +kernel
theorem dX5_enterSet_62 : decode cX5_enterSet 62 = .ok (.aload_n 0, 1) := by decide +kernel
theorem dX5_enterSet_63 : decode cX5_enterSet 63 = .ok (.getfield 21, 3) := by decide +kernel
theorem dX5_enterSet_66 : decode cX5_enterSet 66 = .ok (.getfield 143, 3) := by decide +kernel
theorem dX5_enterSet_69 : decode cX5_enterSet 69 = .ok (.iload 5, 2) := by decide +kernel
theorem dX5_enterSet_71 : decode cX5_enterSet 71 = .ok (.invokevirtual 176, 3) := by decide +kernel
theorem dX5_enterSet_74 : decode cX5_enterSet 74 = .ok (.ireturn, 1) := by decide +kernel
theorem dX5_enterSet_75 : decode cX5_enterSet 75 = .ok (.aload_n 1, 1) := by decide +kernel
theorem dX5_enterSet_76 : decode cX5_enterSet 76 = .ok (.getfield 178, 3) := by decide +kernel
theorem dX5_enterSet_79 : decode cX5_enterSet 79 = .ok (.iload 6, 2) := by decide +kernel
theorem dX5_enterSet_81 : decode cX5_enterSet 81 = .ok (.iaload, 1) := by decide +kernel
theorem dX5_enterSet_82 : decode cX5_enterSet 82 = .ok (.iload 5, 2) := by decide +kernel
theorem dX5_enterSet_84 : decode cX5_enterSet 84 = .ok (.if_icmp .eq 12, 3) := by decide +kernel
theorem dX5_enterSet_87 : decode cX5_enterSet 87 = .ok (.aload_n 0, 1) := by decide +kernel
theorem dX5_enterSet_88 : decode cX5_enterSet 88 = .ok (.iconst 4, 1) := by decide +kernel
theorem dX5_enterSet_89 : decode cX5_enterSet 89 = .ok (.iload_n 2, 1) := by decide +kernel
theorem dX5_enterSet_90 : decode cX5_enterSet 90 = .ok (.invokevirtual 77, 3) := by decide +kernel
theorem dX5_enterSet_93 : decode cX5_enterSet 93 = .ok (.pop, 1) := by decide +kernel
theorem dX5_enterSet_94 : decode cX5_enterSet 94 = .ok (.iconst (-1), 1) := by decide +kernel
theorem dX5_enterSet_95 : decode cX5_enterSet 95 = .ok (.ireturn, 1) := by decide +kernel
theorem dX5_enterSet_96 : decode cX5_enterSet 96 = .ok (.iload 6, 2) := by decide +kernel
theorem dX5_enterSet_98 : decode cX5_enterSet 98 = .ok (.ireturn, 1) := by decide +kernel
set_option maxRecDepth 20000 in
theorem ggX5_endChoice_X5_refuse : GoodIn wsX5_endChoice wsX5_refuse := goodIn_s _ [(6, 3), (17, 13)] rfl (by decide +kernel)
set_option maxRecDepth 20000 in
theorem gX5_endChoice_X5_refuse : GoodIn wsX5_endChoice (wsV RX5 77 RX5 yX5_refuse wsX5_refuse) := goodIn_app (goodIn_r _ [2, 3, 4, 5] rfl (by decide +kernel)) ggX5_endChoice_X5_refuse
theorem dX5_endChoice_0 : decode cX5_endChoice 0 = .ok (.iload 4, 2) := by decide +kernel
theorem dX5_endChoice_2 : decode cX5_endChoice 2 = .ok (.iconst 4, 1) := by decide +kernel
theorem dX5_endChoice_3 : decode cX5_endChoice 3 = .ok (.if_icmp .le 10, 3) := by decide +kernel
theorem dX5_endChoice_6 : decode cX5_endChoice 6 = .ok (.aload_n 0, 1) := by decide +kernel
theorem dX5_endChoice_7 : decode cX5_endChoice 7 = .ok (.iconst 2, 1) := by decide +kernel
theorem dX5_endChoice_8 : decode cX5_endChoice 8 = .ok (.iload_n 1, 1) := by decide +kernel
theorem dX5_endChoice_9 : decode cX5_endChoice 9 = .ok (.invokevirtual 77, 3) := by decide +kernel
theorem dX5_endChoice_12 : decode cX5_endChoice 12 = .ok (.ireturn, 1) := by decide +kernel
theorem dX5_endChoice_13 : decode cX5_endChoice 13 = .ok (.aload_n 2, 1) := by decide +kernel
theorem dX5_endChoice_14 : decode cX5_endChoice 14 = .ok (.getfield 181, 3) := by decide +kernel
theorem dX5_endChoice_17 : decode cX5_endChoice 17 = .ok (.iload_n 3, 1) := by decide +kernel
theorem dX5_endChoice_18 : decode cX5_endChoice 18 = .ok (.iaload, 1) := by decide +kernel
theorem dX5_endChoice_19 : decode cX5_endChoice 19 = .ok (.ifCond .ne 11, 3) := by decide +kernel
theorem dX5_endChoice_22 : decode cX5_endChoice 22 = .ok (.aload_n 2, 1) := by decide +kernel
theorem dX5_endChoice_23 : decode cX5_endChoice 23 = .ok (.getfield 181, 3) := by decide +kernel
theorem dX5_endChoice_26 : decode cX5_endChoice 26 = .ok (.iload_n 3, 1) := by decide +kernel
theorem dX5_endChoice_27 : decode cX5_endChoice 27 = .ok (.iload 4, 2) := by decide +kernel
theorem dX5_endChoice_29 : decode cX5_endChoice 29 = .ok (.iastore, 1) := by decide +kernel
theorem dX5_endChoice_30 : decode cX5_endChoice 30 = .ok (.aload_n 2, 1) := by decide +kernel
theorem dX5_endChoice_31 : decode cX5_endChoice 31 = .ok (.getfield 181, 3) := by decide +kernel
theorem dX5_endChoice_34 : decode cX5_endChoice 34 = .ok (.iload_n 3, 1) := by decide +kernel
theorem dX5_endChoice_35 : decode cX5_endChoice 35 = .ok (.iaload, 1) := by decide +kernel
theorem dX5_endChoice_36 : decode cX5_endChoice 36 = .ok (.iload 4, 2) := by decide +kernel
theorem dX5_endChoice_38 : decode cX5_endChoice 38 = .ok (.if_icmp .eq 12, 3) := by decide +kernel
theorem dX5_endChoice_41 : decode cX5_endChoice 41 = .ok (.aload_n 0, 1) := by decide +kernel
theorem dX5_endChoice_42 : decode cX5_endChoice 42 = .ok (.iconst 5, 1) := by decide +kernel
theorem dX5_endChoice_43 : decode cX5_endChoice 43 = .ok (.iload_n 1, 1) := by decide +kernel
theorem dX5_endChoice_44 : decode cX5_endChoice 44 = .ok (.invokevirtual 77, 3) := by decide +kernel
theorem dX5_endChoice_47 : decode cX5_endChoice 47 = .ok (.ifCond .eq 7, 3) := by decide +kernel
theorem dX5_endChoice_50 : decode cX5_endChoice 50 = .ok (.iconst 1, 1) := by decide +kernel
theorem dX5_endChoice_51 : decode cX5_endChoice 51 = .ok (.goto 4, 3) := by decide +kernel
theorem dX5_endChoice_54 : decode cX5_endChoice 54 = .ok (.iconst 0, 1) := by decide +kernel
theorem dX5_endChoice_55 : decode cX5_endChoice 55 = .ok (.ireturn, 1) := by decide +kernel
set_option maxRecDepth 20000 in
theorem ggX5_finish_X7_countPlans : GoodIn wsX5_finish wsX7_countPlans := goodIn_s _ [(9, 3), (91, 8)] rfl (by decide +kernel)
set_option maxRecDepth 20000 in
theorem gX5_finish_X7_countPlans : GoodIn wsX5_finish (wsV RX5 184 RX7 yX7_countPlans wsX7_countPlans) := goodIn_app (goodIn_r _ [5, 6, 7, 8] rfl (by decide +kernel)) ggX5_finish_X7_countPlans
set_option maxRecDepth 20000 in
theorem ggX5_finish_X5_refuse : GoodIn wsX5_finish wsX5_refuse := goodIn_s _ [(16, 3), (68, 13)] rfl (by decide +kernel)
set_option maxRecDepth 20000 in
theorem gX5_finish_X5_refuse : GoodIn wsX5_finish (wsV RX5 77 RX5 yX5_refuse wsX5_refuse) := goodIn_app (goodIn_r _ [12, 13, 14, 15] rfl (by decide +kernel)) ggX5_finish_X5_refuse
set_option maxRecDepth 20000 in
theorem ggX5_finish_X5_findCommonNumber : GoodIn wsX5_finish wsX5_findCommonNumber := goodIn_s _ [(22, 1), (1, 1), (23, 17), (68, 17)] rfl (by decide +kernel)
set_option maxRecDepth 20000 in
theorem gX5_finish_X5_findCommonNumber : GoodIn wsX5_finish (wsV RX5 191 RX5 yX5_findCommonNumber wsX5_findCommonNumber) := goodIn_app (goodIn_r _ [19, 20, 21, 15] rfl (by decide +kernel)) ggX5_finish_X5_findCommonNumber
set_option maxRecDepth 20000 in
theorem ggX5_finish_X7_numberLines : GoodIn wsX5_finish wsX7_numberLines := goodIn_s _ [(43, 2), (10, 1), (45, 1), (11, 1), (46, 5), (8, 1), (51, 7), (91, 8)] rfl (by decide +kernel)
set_option maxRecDepth 20000 in
theorem gX5_finish_X7_numberLines : GoodIn wsX5_finish (wsV RX5 194 RX7 yX7_numberLines wsX7_numberLines) := goodIn_app (goodIn_r _ [40, 41, 42, 8] rfl (by decide +kernel)) ggX5_finish_X7_numberLines
set_option maxRecDepth 20000 in
theorem ggX5_finish_X5_fillWeights : GoodIn wsX5_finish wsX5_fillWeights := goodIn_s _ [(61, 1), (1, 1), (24, 1), (23, 1), (25, 1), (62, 2), (34, 3), (26, 1), (2, 1), (64, 3), (38, 1), (28, 1), (39, 1), (67, 1), (49, 2), (8, 1), (51, 1), (45, 1), (52, 6), (68, 17), (91, 8)] rfl (by decide +kernel)
set_option maxRecDepth 20000 in
theorem gX5_finish_X5_fillWeights : GoodIn wsX5_finish (wsV RX5 197 RX5 yX5_fillWeights wsX5_fillWeights) := goodIn_app (goodIn_r _ [58, 59, 60, 15] rfl (by decide +kernel)) ggX5_finish_X5_fillWeights
theorem dX5_finish_0 : decode cX5_finish 0 = .ok (.iconst 0, 1) := by decide +kernel
theorem dX5_finish_1 : decode cX5_finish 1 = .ok (.istore_n 1, 1) := by decide +kernel
theorem dX5_finish_2 : decode cX5_finish 2 = .ok (.iload_n 1, 1) := by decide +kernel
theorem dX5_finish_3 : decode cX5_finish 3 = .ok (.iconst 2, 1) := by decide +kernel
theorem dX5_finish_4 : decode cX5_finish 4 = .ok (.if_icmp .ge 40, 3) := by decide +kernel
theorem dX5_finish_7 : decode cX5_finish 7 = .ok (.aload_n 0, 1) := by decide +kernel
theorem dX5_finish_8 : decode cX5_finish 8 = .ok (.getfield 28, 3) := by decide +kernel
theorem dX5_finish_11 : decode cX5_finish 11 = .ok (.getfield 153, 3) := by decide +kernel
theorem dX5_finish_14 : decode cX5_finish 14 = .ok (.iload_n 1, 1) := by decide +kernel
theorem dX5_finish_15 : decode cX5_finish 15 = .ok (.aaload, 1) := by decide +kernel
theorem dX5_finish_16 : decode cX5_finish 16 = .ok (.invokevirtual 184, 3) := by decide +kernel
theorem dX5_finish_19 : decode cX5_finish 19 = .ok (.bipush 64, 2) := by decide +kernel
theorem dX5_finish_21 : decode cX5_finish 21 = .ok (.if_icmp .le 17, 3) := by decide +kernel
theorem dX5_finish_24 : decode cX5_finish 24 = .ok (.aload_n 0, 1) := by decide +kernel
theorem dX5_finish_25 : decode cX5_finish 25 = .ok (.iconst 2, 1) := by decide +kernel
theorem dX5_finish_26 : decode cX5_finish 26 = .ok (.aload_n 0, 1) := by decide +kernel
theorem dX5_finish_27 : decode cX5_finish 27 = .ok (.getfield 21, 3) := by decide +kernel
theorem dX5_finish_30 : decode cX5_finish 30 = .ok (.getfield 188, 3) := by decide +kernel
theorem dX5_finish_33 : decode cX5_finish 33 = .ok (.invokevirtual 77, 3) := by decide +kernel
theorem dX5_finish_36 : decode cX5_finish 36 = .ok (.pop, 1) := by decide +kernel
theorem dX5_finish_37 : decode cX5_finish 37 = .ok (.return_, 1) := by decide +kernel
theorem dX5_finish_38 : decode cX5_finish 38 = .ok (.iinc 1 1, 3) := by decide +kernel
theorem dX5_finish_41 : decode cX5_finish 41 = .ok (.goto (-39), 3) := by decide +kernel
theorem dX5_finish_44 : decode cX5_finish 44 = .ok (.aload_n 0, 1) := by decide +kernel
theorem dX5_finish_45 : decode cX5_finish 45 = .ok (.invokevirtual 191, 3) := by decide +kernel
theorem dX5_finish_48 : decode cX5_finish 48 = .ok (.ifCond .ne 18, 3) := by decide +kernel
theorem dX5_finish_51 : decode cX5_finish 51 = .ok (.aload_n 0, 1) := by decide +kernel
theorem dX5_finish_52 : decode cX5_finish 52 = .ok (.bipush 6, 2) := by decide +kernel
theorem dX5_finish_54 : decode cX5_finish 54 = .ok (.aload_n 0, 1) := by decide +kernel
theorem dX5_finish_55 : decode cX5_finish 55 = .ok (.getfield 21, 3) := by decide +kernel
theorem dX5_finish_58 : decode cX5_finish 58 = .ok (.getfield 188, 3) := by decide +kernel
theorem dX5_finish_61 : decode cX5_finish 61 = .ok (.invokevirtual 77, 3) := by decide +kernel
theorem dX5_finish_64 : decode cX5_finish 64 = .ok (.pop, 1) := by decide +kernel
theorem dX5_finish_65 : decode cX5_finish 65 = .ok (.return_, 1) := by decide +kernel
theorem dX5_finish_66 : decode cX5_finish 66 = .ok (.iconst 0, 1) := by decide +kernel
theorem dX5_finish_67 : decode cX5_finish 67 = .ok (.istore_n 1, 1) := by decide +kernel
theorem dX5_finish_68 : decode cX5_finish 68 = .ok (.iload_n 1, 1) := by decide +kernel
theorem dX5_finish_69 : decode cX5_finish 69 = .ok (.iconst 2, 1) := by decide +kernel
theorem dX5_finish_70 : decode cX5_finish 70 = .ok (.if_icmp .ge 21, 3) := by decide +kernel
theorem dX5_finish_73 : decode cX5_finish 73 = .ok (.aload_n 0, 1) := by decide +kernel
theorem dX5_finish_74 : decode cX5_finish 74 = .ok (.getfield 28, 3) := by decide +kernel
theorem dX5_finish_77 : decode cX5_finish 77 = .ok (.getfield 153, 3) := by decide +kernel
theorem dX5_finish_80 : decode cX5_finish 80 = .ok (.iload_n 1, 1) := by decide +kernel
theorem dX5_finish_81 : decode cX5_finish 81 = .ok (.aaload, 1) := by decide +kernel
theorem dX5_finish_82 : decode cX5_finish 82 = .ok (.invokevirtual 194, 3) := by decide +kernel
theorem dX5_finish_85 : decode cX5_finish 85 = .ok (.iinc 1 1, 3) := by decide +kernel
theorem dX5_finish_88 : decode cX5_finish 88 = .ok (.goto (-20), 3) := by decide +kernel
theorem dX5_finish_91 : decode cX5_finish 91 = .ok (.aload_n 0, 1) := by decide +kernel
theorem dX5_finish_92 : decode cX5_finish 92 = .ok (.invokevirtual 197, 3) := by decide +kernel
theorem dX5_finish_95 : decode cX5_finish 95 = .ok (.ifCond .ne 17, 3) := by decide +kernel
theorem dX5_finish_98 : decode cX5_finish 98 = .ok (.aload_n 0, 1) := by decide +kernel
theorem dX5_finish_99 : decode cX5_finish 99 = .ok (.bipush 6, 2) := by decide +kernel
theorem dX5_finish_101 : decode cX5_finish 101 = .ok (.aload_n 0, 1) := by decide +kernel
theorem dX5_finish_102 : decode cX5_finish 102 = .ok (.getfield 21, 3) := by decide +kernel
theorem dX5_finish_105 : decode cX5_finish 105 = .ok (.getfield 188, 3) := by decide +kernel
theorem dX5_finish_108 : decode cX5_finish 108 = .ok (.invokevirtual 77, 3) := by decide +kernel
theorem dX5_finish_111 : decode cX5_finish 111 = .ok (.pop, 1) := by decide +kernel
theorem dX5_finish_112 : decode cX5_finish 112 = .ok (.return_, 1) := by decide +kernel
set_option maxRecDepth 20000 in
theorem ggX5_findCommonNumber_X11_lcm : GoodIn wsX5_findCommonNumber wsX11_lcm := goodIn_s _ [(8, 3), (7, 1), (11, 8)] rfl (by decide +kernel)
set_option maxRecDepth 20000 in
theorem gX5_findCommonNumber_X11_lcm_n146 : GoodIn wsX5_findCommonNumber (wsX11_lcm) := ggX5_findCommonNumber_X11_lcm
theorem dX5_findCommonNumber_0 : decode cX5_findCommonNumber 0 = .ok (.aload_n 0, 1) := by decide +kernel
theorem dX5_findCommonNumber_1 : decode cX5_findCommonNumber 1 = .ok (.getfield 28, 3) := by decide +kernel
theorem dX5_findCommonNumber_4 : decode cX5_findCommonNumber 4 = .ok (.lconst 1, 1) := by decide +kernel
theorem dX5_findCommonNumber_5 : decode cX5_findCommonNumber 5 = .ok (.putfield 200, 3) := by decide +kernel
theorem dX5_findCommonNumber_8 : decode cX5_findCommonNumber 8 = .ok (.iconst 0, 1) := by decide +kernel
theorem dX5_findCommonNumber_9 : decode cX5_findCommonNumber 9 = .ok (.istore_n 1, 1) := by decide +kernel
theorem dX5_findCommonNumber_10 : decode cX5_findCommonNumber 10 = .ok (.iload_n 1, 1) := by decide +kernel
theorem dX5_findCommonNumber_11 : decode cX5_findCommonNumber 11 = .ok (.aload_n 0, 1) := by decide +kernel
theorem dX5_findCommonNumber_12 : decode cX5_findCommonNumber 12 = .ok (.getfield 28, 3) := by decide +kernel
theorem dX5_findCommonNumber_15 : decode cX5_findCommonNumber 15 = .ok (.getfield 111, 3) := by decide +kernel
theorem dX5_findCommonNumber_18 : decode cX5_findCommonNumber 18 = .ok (.iconst 1, 1) := by decide +kernel
theorem dX5_findCommonNumber_19 : decode cX5_findCommonNumber 19 = .ok (.iaload, 1) := by decide +kernel
theorem dX5_findCommonNumber_20 : decode cX5_findCommonNumber 20 = .ok (.if_icmp .ge 63, 3) := by decide +kernel
theorem dX5_findCommonNumber_23 : decode cX5_findCommonNumber 23 = .ok (.aload_n 0, 1) := by decide +kernel
theorem dX5_findCommonNumber_24 : decode cX5_findCommonNumber 24 = .ok (.getfield 54, 3) := by decide +kernel
theorem dX5_findCommonNumber_27 : decode cX5_findCommonNumber 27 = .ok (.iload_n 1, 1) := by decide +kernel
theorem dX5_findCommonNumber_28 : decode cX5_findCommonNumber 28 = .ok (.laload, 1) := by decide +kernel
theorem dX5_findCommonNumber_29 : decode cX5_findCommonNumber 29 = .ok (.ldc2_w 124, 3) := by decide +kernel
theorem dX5_findCommonNumber_32 : decode cX5_findCommonNumber 32 = .ok (.lcmp, 1) := by decide +kernel
theorem dX5_findCommonNumber_33 : decode cX5_findCommonNumber 33 = .ok (.ifCond .lt 5, 3) := by decide +kernel
theorem dX5_findCommonNumber_36 : decode cX5_findCommonNumber 36 = .ok (.iconst 0, 1) := by decide +kernel
theorem dX5_findCommonNumber_37 : decode cX5_findCommonNumber 37 = .ok (.ireturn, 1) := by decide +kernel
theorem dX5_findCommonNumber_38 : decode cX5_findCommonNumber 38 = .ok (.aload_n 0, 1) := by decide +kernel
theorem dX5_findCommonNumber_39 : decode cX5_findCommonNumber 39 = .ok (.getfield 28, 3) := by decide +kernel
theorem dX5_findCommonNumber_42 : decode cX5_findCommonNumber 42 = .ok (.aload_n 0, 1) := by decide +kernel
theorem dX5_findCommonNumber_43 : decode cX5_findCommonNumber 43 = .ok (.getfield 28, 3) := by decide +kernel
theorem dX5_findCommonNumber_46 : decode cX5_findCommonNumber 46 = .ok (.getfield 200, 3) := by decide +kernel
theorem dX5_findCommonNumber_49 : decode cX5_findCommonNumber 49 = .ok (.aload_n 0, 1) := by decide +kernel
theorem dX5_findCommonNumber_50 : decode cX5_findCommonNumber 50 = .ok (.getfield 54, 3) := by decide +kernel
theorem dX5_findCommonNumber_53 : decode cX5_findCommonNumber 53 = .ok (.iload_n 1, 1) := by decide +kernel
theorem dX5_findCommonNumber_54 : decode cX5_findCommonNumber 54 = .ok (.laload, 1) := by decide +kernel
theorem dX5_findCommonNumber_55 : decode cX5_findCommonNumber 55 = .ok (.invokestatic 146, 3) := by decide +kernel
theorem dX5_findCommonNumber_58 : decode cX5_findCommonNumber 58 = .ok (.putfield 200, 3) := by decide +kernel
theorem dX5_findCommonNumber_61 : decode cX5_findCommonNumber 61 = .ok (.aload_n 0, 1) := by decide +kernel
theorem dX5_findCommonNumber_62 : decode cX5_findCommonNumber 62 = .ok (.getfield 28, 3) := by decide +kernel
theorem dX5_findCommonNumber_65 : decode cX5_findCommonNumber 65 = .ok (.getfield 200, 3) := by decide +kernel
theorem dX5_findCommonNumber_68 : decode cX5_findCommonNumber 68 = .ok (.ldc2_w 124, 3) := by decide +kernel
theorem dX5_findCommonNumber_71 : decode cX5_findCommonNumber 71 = .ok (.lcmp, 1) := by decide +kernel
theorem dX5_findCommonNumber_72 : decode cX5_findCommonNumber 72 = .ok (.ifCond .lt 5, 3) := by decide +kernel
theorem dX5_findCommonNumber_75 : decode cX5_findCommonNumber 75 = .ok (.iconst 0, 1) := by decide +kernel
theorem dX5_findCommonNumber_76 : decode cX5_findCommonNumber 76 = .ok (.ireturn, 1) := by decide +kernel
theorem dX5_findCommonNumber_77 : decode cX5_findCommonNumber 77 = .ok (.iinc 1 1, 3) := by decide +kernel
theorem dX5_findCommonNumber_80 : decode cX5_findCommonNumber 80 = .ok (.goto (-70), 3) := by decide +kernel
theorem dX5_findCommonNumber_83 : decode cX5_findCommonNumber 83 = .ok (.iconst 1, 1) := by decide +kernel
theorem dX5_findCommonNumber_84 : decode cX5_findCommonNumber 84 = .ok (.ireturn, 1) := by decide +kernel
set_option maxRecDepth 20000 in
theorem ggX5_fillWeights_X11_quotient : GoodIn wsX5_fillWeights wsX11_quotient := goodIn_r _ [17] rfl (by decide +kernel)
set_option maxRecDepth 20000 in
theorem gX5_fillWeights_X11_quotient_n140 : GoodIn wsX5_fillWeights (wsX11_quotient) := ggX5_fillWeights_X11_quotient
set_option maxRecDepth 20000 in
theorem ggX5_fillWeights_X7_lineOf : GoodIn wsX5_fillWeights wsX7_lineOf := goodIn_s _ [(22, 4), (21, 1), (26, 4), (47, 8)] rfl (by decide +kernel)
set_option maxRecDepth 20000 in
theorem gX5_fillWeights_X7_lineOf : GoodIn wsX5_fillWeights (wsV RX5 207 RX7 yX7_lineOf wsX7_lineOf) := goodIn_app (goodIn_r _ [18, 19, 20, 21] rfl (by decide +kernel)) ggX5_fillWeights_X7_lineOf
theorem dX5_fillWeights_0 : decode cX5_fillWeights 0 = .ok (.iconst 0, 1) := by decide +kernel
theorem dX5_fillWeights_1 : decode cX5_fillWeights 1 = .ok (.istore_n 1, 1) := by decide +kernel
theorem dX5_fillWeights_2 : decode cX5_fillWeights 2 = .ok (.iload_n 1, 1) := by decide +kernel
theorem dX5_fillWeights_3 : decode cX5_fillWeights 3 = .ok (.aload_n 0, 1) := by decide +kernel
theorem dX5_fillWeights_4 : decode cX5_fillWeights 4 = .ok (.getfield 28, 3) := by decide +kernel
theorem dX5_fillWeights_7 : decode cX5_fillWeights 7 = .ok (.getfield 111, 3) := by decide +kernel
theorem dX5_fillWeights_10 : decode cX5_fillWeights 10 = .ok (.iconst 1, 1) := by decide +kernel
theorem dX5_fillWeights_11 : decode cX5_fillWeights 11 = .ok (.iaload, 1) := by decide +kernel
theorem dX5_fillWeights_12 : decode cX5_fillWeights 12 = .ok (.if_icmp .ge 103, 3) := by decide +kernel
theorem dX5_fillWeights_15 : decode cX5_fillWeights 15 = .ok (.aload_n 0, 1) := by decide +kernel
theorem dX5_fillWeights_16 : decode cX5_fillWeights 16 = .ok (.getfield 28, 3) := by decide +kernel
theorem dX5_fillWeights_19 : decode cX5_fillWeights 19 = .ok (.getfield 200, 3) := by decide +kernel
theorem dX5_fillWeights_22 : decode cX5_fillWeights 22 = .ok (.aload_n 0, 1) := by decide +kernel
theorem dX5_fillWeights_23 : decode cX5_fillWeights 23 = .ok (.getfield 54, 3) := by decide +kernel
theorem dX5_fillWeights_26 : decode cX5_fillWeights 26 = .ok (.iload_n 1, 1) := by decide +kernel
theorem dX5_fillWeights_27 : decode cX5_fillWeights 27 = .ok (.laload, 1) := by decide +kernel
theorem dX5_fillWeights_28 : decode cX5_fillWeights 28 = .ok (.invokestatic 140, 3) := by decide +kernel
theorem dX5_fillWeights_31 : decode cX5_fillWeights 31 = .ok (.aload_n 0, 1) := by decide +kernel
theorem dX5_fillWeights_32 : decode cX5_fillWeights 32 = .ok (.getfield 50, 3) := by decide +kernel
theorem dX5_fillWeights_35 : decode cX5_fillWeights 35 = .ok (.iload_n 1, 1) := by decide +kernel
