theorem dX12_end_235 : decode cX12_end 235 = .ok (.getfield 172, 3) := by decide +kernel
theorem dX12_end_238 : decode cX12_end 238 = .ok (.dup2, 1) := by decide +kernel
theorem dX12_end_239 : decode cX12_end 239 = .ok (.iaload, 1) := by decide +kernel
theorem dX12_end_240 : decode cX12_end 240 = .ok (.iconst 1, 1) := by decide +kernel
theorem dX12_end_241 : decode cX12_end 241 = .ok (.iadd, 1) := by decide +kernel
theorem dX12_end_242 : decode cX12_end 242 = .ok (.iastore, 1) := by decide +kernel
theorem dX12_end_243 : decode cX12_end 243 = .ok (.return_, 1) := by decide +kernel
set_option maxRecDepth 20000 in
theorem ggX12_goOn_X12_finish : GoodIn wsX12_goOn wsX12_finish := goodIn_s _ [(17, 1), (1, 1), (5, 1), (18, 7), (16, 1), (25, 1), (8, 1), (26, 7), (12, 1), (11, 1), (33, 3), (73, 58)] rfl (by decide +kernel)
set_option maxRecDepth 20000 in
theorem gX12_goOn_X12_finish : GoodIn wsX12_goOn (wsV RX12 307 RX12 yX12_finish wsX12_finish) := goodIn_app (goodIn_r _ [13, 14, 15, 16] rfl (by decide +kernel)) ggX12_goOn_X12_finish
set_option maxRecDepth 20000 in
theorem ggX12_goOn_X12_beginNode : GoodIn wsX12_goOn wsX12_beginNode := goodIn_s _ [(39, 1), (3, 1), (2, 1), (40, 1), (21, 1), (4, 1), (41, 1), (32, 1), (8, 1), (18, 1), (5, 1), (19, 1), (1, 1), (6, 2), (42, 2), (22, 3), (16, 1), (25, 3), (44, 6), (20, 1), (50, 1), (33, 3), (51, 4), (9, 2), (55, 76)] rfl (by decide +kernel)
set_option maxRecDepth 20000 in
theorem gX12_goOn_X12_beginNode : GoodIn wsX12_goOn (wsV RX12 278 RX12 yX12_beginNode wsX12_beginNode) := goodIn_app (goodIn_r _ [36, 37, 38, 16] rfl (by decide +kernel)) ggX12_goOn_X12_beginNode
set_option maxRecDepth 20000 in
theorem ggX12_goOn_X12_fraction : GoodIn wsX12_goOn wsX12_fraction := goodIn_s _ [(54, 1), (3, 1), (2, 1), (41, 1), (9, 2), (22, 3), (16, 1), (25, 1), (8, 1), (26, 2), (73, 58)] rfl (by decide +kernel)
set_option maxRecDepth 20000 in
theorem gX12_goOn_X12_fraction : GoodIn wsX12_goOn (wsV RX12 297 RX12 yX12_fraction wsX12_fraction) := goodIn_app (goodIn_r _ [51, 52, 53, 16] rfl (by decide +kernel)) ggX12_goOn_X12_fraction
set_option maxRecDepth 20000 in
theorem ggX12_goOn_X12_divisor : GoodIn wsX12_goOn wsX12_divisor := goodIn_r _ [35] rfl (by decide +kernel)
set_option maxRecDepth 20000 in
theorem gX12_goOn_X12_divisor : GoodIn wsX12_goOn (va_wsS RX12 291 yX12_divisor wsX12_divisor) := goodIn_app (goodIn_r _ [33, 34, 16] rfl (by decide +kernel)) ggX12_goOn_X12_divisor
theorem dX12_goOn_0 : decode cX12_goOn 0 = .ok (.aload_n 0, 1) := by decide +kernel
theorem dX12_goOn_1 : decode cX12_goOn 1 = .ok (.getfield 184, 3) := by decide +kernel
theorem dX12_goOn_4 : decode cX12_goOn 4 = .ok (.iload_n 1, 1) := by decide +kernel
theorem dX12_goOn_5 : decode cX12_goOn 5 = .ok (.iaload, 1) := by decide +kernel
theorem dX12_goOn_6 : decode cX12_goOn 6 = .ok (.ifCond .lt 43, 3) := by decide +kernel
theorem dX12_goOn_9 : decode cX12_goOn 9 = .ok (.aload_n 0, 1) := by decide +kernel
theorem dX12_goOn_10 : decode cX12_goOn 10 = .ok (.getfield 102, 3) := by decide +kernel
theorem dX12_goOn_13 : decode cX12_goOn 13 = .ok (.aload_n 0, 1) := by decide +kernel
theorem dX12_goOn_14 : decode cX12_goOn 14 = .ok (.getfield 262, 3) := by decide +kernel
theorem dX12_goOn_17 : decode cX12_goOn 17 = .ok (.iaload, 1) := by decide +kernel
theorem dX12_goOn_18 : decode cX12_goOn 18 = .ok (.bipush 44, 2) := by decide +kernel
theorem dX12_goOn_20 : decode cX12_goOn 20 = .ok (.if_icmp .eq 29, 3) := by decide +kernel
theorem dX12_goOn_23 : decode cX12_goOn 23 = .ok (.aload_n 0, 1) := by decide +kernel
theorem dX12_goOn_24 : decode cX12_goOn 24 = .ok (.iload_n 1, 1) := by decide +kernel
theorem dX12_goOn_25 : decode cX12_goOn 25 = .ok (.invokevirtual 307, 3) := by decide +kernel
theorem dX12_goOn_28 : decode cX12_goOn 28 = .ok (.aload_n 0, 1) := by decide +kernel
theorem dX12_goOn_29 : decode cX12_goOn 29 = .ok (.dup, 1) := by decide +kernel
theorem dX12_goOn_30 : decode cX12_goOn 30 = .ok (.getfield 262, 3) := by decide +kernel
theorem dX12_goOn_33 : decode cX12_goOn 33 = .ok (.iconst 1, 1) := by decide +kernel
theorem dX12_goOn_34 : decode cX12_goOn 34 = .ok (.iadd, 1) := by decide +kernel
theorem dX12_goOn_35 : decode cX12_goOn 35 = .ok (.putfield 262, 3) := by decide +kernel
theorem dX12_goOn_38 : decode cX12_goOn 38 = .ok (.aload_n 0, 1) := by decide +kernel
theorem dX12_goOn_39 : decode cX12_goOn 39 = .ok (.dup, 1) := by decide +kernel
theorem dX12_goOn_40 : decode cX12_goOn 40 = .ok (.getfield 275, 3) := by decide +kernel
theorem dX12_goOn_43 : decode cX12_goOn 43 = .ok (.iconst 1, 1) := by decide +kernel
theorem dX12_goOn_44 : decode cX12_goOn 44 = .ok (.isub, 1) := by decide +kernel
theorem dX12_goOn_45 : decode cX12_goOn 45 = .ok (.putfield 275, 3) := by decide +kernel
theorem dX12_goOn_48 : decode cX12_goOn 48 = .ok (.return_, 1) := by decide +kernel
theorem dX12_goOn_49 : decode cX12_goOn 49 = .ok (.aload_n 0, 1) := by decide +kernel
theorem dX12_goOn_50 : decode cX12_goOn 50 = .ok (.aload_n 0, 1) := by decide +kernel
theorem dX12_goOn_51 : decode cX12_goOn 51 = .ok (.getfield 184, 3) := by decide +kernel
theorem dX12_goOn_54 : decode cX12_goOn 54 = .ok (.iload_n 1, 1) := by decide +kernel
theorem dX12_goOn_55 : decode cX12_goOn 55 = .ok (.iaload, 1) := by decide +kernel
theorem dX12_goOn_56 : decode cX12_goOn 56 = .ok (.ifCond .lt 12, 3) := by decide +kernel
theorem dX12_goOn_59 : decode cX12_goOn 59 = .ok (.aload_n 0, 1) := by decide +kernel
theorem dX12_goOn_60 : decode cX12_goOn 60 = .ok (.getfield 262, 3) := by decide +kernel
theorem dX12_goOn_63 : decode cX12_goOn 63 = .ok (.iconst 1, 1) := by decide +kernel
theorem dX12_goOn_64 : decode cX12_goOn 64 = .ok (.iadd, 1) := by decide +kernel
theorem dX12_goOn_65 : decode cX12_goOn 65 = .ok (.goto 7, 3) := by decide +kernel
theorem dX12_goOn_68 : decode cX12_goOn 68 = .ok (.aload_n 0, 1) := by decide +kernel
theorem dX12_goOn_69 : decode cX12_goOn 69 = .ok (.getfield 262, 3) := by decide +kernel
theorem dX12_goOn_72 : decode cX12_goOn 72 = .ok (.putfield 262, 3) := by decide +kernel
theorem dX12_goOn_75 : decode cX12_goOn 75 = .ok (.aload_n 0, 1) := by decide +kernel
theorem dX12_goOn_76 : decode cX12_goOn 76 = .ok (.getfield 184, 3) := by decide +kernel
theorem dX12_goOn_79 : decode cX12_goOn 79 = .ok (.iload_n 1, 1) := by decide +kernel
theorem dX12_goOn_80 : decode cX12_goOn 80 = .ok (.dup2, 1) := by decide +kernel
theorem dX12_goOn_81 : decode cX12_goOn 81 = .ok (.iaload, 1) := by decide +kernel
theorem dX12_goOn_82 : decode cX12_goOn 82 = .ok (.iconst 1, 1) := by decide +kernel
theorem dX12_goOn_83 : decode cX12_goOn 83 = .ok (.iadd, 1) := by decide +kernel
theorem dX12_goOn_84 : decode cX12_goOn 84 = .ok (.iastore, 1) := by decide +kernel
theorem dX12_goOn_85 : decode cX12_goOn 85 = .ok (.aload_n 0, 1) := by decide +kernel
theorem dX12_goOn_86 : decode cX12_goOn 86 = .ok (.getfield 178, 3) := by decide +kernel
theorem dX12_goOn_89 : decode cX12_goOn 89 = .ok (.iload_n 1, 1) := by decide +kernel
theorem dX12_goOn_90 : decode cX12_goOn 90 = .ok (.iaload, 1) := by decide +kernel
theorem dX12_goOn_91 : decode cX12_goOn 91 = .ok (.bipush 63, 2) := by decide +kernel
theorem dX12_goOn_93 : decode cX12_goOn 93 = .ok (.if_icmp .eq 20, 3) := by decide +kernel
theorem dX12_goOn_96 : decode cX12_goOn 96 = .ok (.aload_n 0, 1) := by decide +kernel
theorem dX12_goOn_97 : decode cX12_goOn 97 = .ok (.aload_n 0, 1) := by decide +kernel
theorem dX12_goOn_98 : decode cX12_goOn 98 = .ok (.getfield 187, 3) := by decide +kernel
theorem dX12_goOn_101 : decode cX12_goOn 101 = .ok (.iload_n 1, 1) := by decide +kernel
theorem dX12_goOn_102 : decode cX12_goOn 102 = .ok (.laload, 1) := by decide +kernel
theorem dX12_goOn_103 : decode cX12_goOn 103 = .ok (.aload_n 0, 1) := by decide +kernel
theorem dX12_goOn_104 : decode cX12_goOn 104 = .ok (.getfield 190, 3) := by decide +kernel
theorem dX12_goOn_107 : decode cX12_goOn 107 = .ok (.iload_n 1, 1) := by decide +kernel
theorem dX12_goOn_108 : decode cX12_goOn 108 = .ok (.laload, 1) := by decide +kernel
theorem dX12_goOn_109 : decode cX12_goOn 109 = .ok (.invokevirtual 278, 3) := by decide +kernel
theorem dX12_goOn_112 : decode cX12_goOn 112 = .ok (.return_, 1) := by decide +kernel
theorem dX12_goOn_113 : decode cX12_goOn 113 = .ok (.aload_n 0, 1) := by decide +kernel
theorem dX12_goOn_114 : decode cX12_goOn 114 = .ok (.iconst 1, 1) := by decide +kernel
theorem dX12_goOn_115 : decode cX12_goOn 115 = .ok (.invokevirtual 297, 3) := by decide +kernel
theorem dX12_goOn_118 : decode cX12_goOn 118 = .ok (.aload_n 0, 1) := by decide +kernel
theorem dX12_goOn_119 : decode cX12_goOn 119 = .ok (.getfield 256, 3) := by decide +kernel
theorem dX12_goOn_122 : decode cX12_goOn 122 = .ok (.ifCond .eq 4, 3) := by decide +kernel
theorem dX12_goOn_125 : decode cX12_goOn 125 = .ok (.return_, 1) := by decide +kernel
theorem dX12_goOn_126 : decode cX12_goOn 126 = .ok (.aload_n 0, 1) := by decide +kernel
theorem dX12_goOn_127 : decode cX12_goOn 127 = .ok (.getfield 265, 3) := by decide +kernel
theorem dX12_goOn_130 : decode cX12_goOn 130 = .ok (.aload_n 0, 1) := by decide +kernel
theorem dX12_goOn_131 : decode cX12_goOn 131 = .ok (.getfield 269, 3) := by decide +kernel
theorem dX12_goOn_134 : decode cX12_goOn 134 = .ok (.invokestatic 291, 3) := by decide +kernel
theorem dX12_goOn_137 : decode cX12_goOn 137 = .ok (.lstore_n 2, 1) := by decide +kernel
theorem dX12_goOn_138 : decode cX12_goOn 138 = .ok (.aload_n 0, 1) := by decide +kernel
theorem dX12_goOn_139 : decode cX12_goOn 139 = .ok (.getfield 184, 3) := by decide +kernel
theorem dX12_goOn_142 : decode cX12_goOn 142 = .ok (.iload_n 1, 1) := by decide +kernel
theorem dX12_goOn_143 : decode cX12_goOn 143 = .ok (.iaload, 1) := by decide +kernel
theorem dX12_goOn_144 : decode cX12_goOn 144 = .ok (.bipush 8, 2) := by decide +kernel
theorem dX12_goOn_146 : decode cX12_goOn 146 = .ok (.if_icmp .ge 47, 3) := by decide +kernel
theorem dX12_goOn_149 : decode cX12_goOn 149 = .ok (.aload_n 0, 1) := by decide +kernel
theorem dX12_goOn_150 : decode cX12_goOn 150 = .ok (.getfield 193, 3) := by decide +kernel
theorem dX12_goOn_153 : decode cX12_goOn 153 = .ok (.bipush 9, 2) := by decide +kernel
theorem dX12_goOn_155 : decode cX12_goOn 155 = .ok (.iload_n 1, 1) := by decide +kernel
theorem dX12_goOn_156 : decode cX12_goOn 156 = .ok (.imul, 1) := by decide +kernel
theorem dX12_goOn_157 : decode cX12_goOn 157 = .ok (.aload_n 0, 1) := by decide +kernel
theorem dX12_goOn_158 : decode cX12_goOn 158 = .ok (.getfield 184, 3) := by decide +kernel
theorem dX12_goOn_161 : decode cX12_goOn 161 = .ok (.iload_n 1, 1) := by decide +kernel
theorem dX12_goOn_162 : decode cX12_goOn 162 = .ok (.iaload, 1) := by decide +kernel
theorem dX12_goOn_163 : decode cX12_goOn 163 = .ok (.iadd, 1) := by decide +kernel
theorem dX12_goOn_164 : decode cX12_goOn 164 = .ok (.aload_n 0, 1) := by decide +kernel
theorem dX12_goOn_165 : decode cX12_goOn 165 = .ok (.getfield 265, 3) := by decide +kernel
theorem dX12_goOn_168 : decode cX12_goOn 168 = .ok (.lload_n 2, 1) := by decide +kernel
theorem dX12_goOn_169 : decode cX12_goOn 169 = .ok (.ldiv, 1) := by decide +kernel
theorem dX12_goOn_170 : decode cX12_goOn 170 = .ok (.lastore, 1) := by decide +kernel
theorem dX12_goOn_171 : decode cX12_goOn 171 = .ok (.aload_n 0, 1) := by decide +kernel
theorem dX12_goOn_172 : decode cX12_goOn 172 = .ok (.getfield 196, 3) := by decide +kernel
theorem dX12_goOn_175 : decode cX12_goOn 175 = .ok (.bipush 9, 2) := by decide +kernel
theorem dX12_goOn_177 : decode cX12_goOn 177 = .ok (.iload_n 1, 1) := by decide +kernel
theorem dX12_goOn_178 : decode cX12_goOn 178 = .ok (.imul, 1) := by decide +kernel
theorem dX12_goOn_179 : decode cX12_goOn 179 = .ok (.aload_n 0, 1) := by decide +kernel
theorem dX12_goOn_180 : decode cX12_goOn 180 = .ok (.getfield 184, 3) := by decide +kernel
theorem dX12_goOn_183 : decode cX12_goOn 183 = .ok (.iload_n 1, 1) := by decide +kernel
theorem dX12_goOn_184 : decode cX12_goOn 184 = .ok (.iaload, 1) := by decide +kernel
theorem dX12_goOn_185 : decode cX12_goOn 185 = .ok (.iadd, 1) := by decide +kernel
theorem dX12_goOn_186 : decode cX12_goOn 186 = .ok (.aload_n 0, 1) := by decide +kernel
theorem dX12_goOn_187 : decode cX12_goOn 187 = .ok (.getfield 269, 3) := by decide +kernel
theorem dX12_goOn_190 : decode cX12_goOn 190 = .ok (.lload_n 2, 1) := by decide +kernel
theorem dX12_goOn_191 : decode cX12_goOn 191 = .ok (.ldiv, 1) := by decide +kernel
theorem dX12_goOn_192 : decode cX12_goOn 192 = .ok (.lastore, 1) := by decide +kernel
theorem dX12_goOn_193 : decode cX12_goOn 193 = .ok (.aload_n 0, 1) := by decide +kernel
theorem dX12_goOn_194 : decode cX12_goOn 194 = .ok (.dup, 1) := by decide +kernel
theorem dX12_goOn_195 : decode cX12_goOn 195 = .ok (.getfield 262, 3) := by decide +kernel
theorem dX12_goOn_198 : decode cX12_goOn 198 = .ok (.iconst 1, 1) := by decide +kernel
theorem dX12_goOn_199 : decode cX12_goOn 199 = .ok (.iadd, 1) := by decide +kernel
theorem dX12_goOn_200 : decode cX12_goOn 200 = .ok (.putfield 262, 3) := by decide +kernel
theorem dX12_goOn_203 : decode cX12_goOn 203 = .ok (.aload_n 0, 1) := by decide +kernel
theorem dX12_goOn_204 : decode cX12_goOn 204 = .ok (.aload_n 0, 1) := by decide +kernel
theorem dX12_goOn_205 : decode cX12_goOn 205 = .ok (.getfield 187, 3) := by decide +kernel
theorem dX12_goOn_208 : decode cX12_goOn 208 = .ok (.iload_n 1, 1) := by decide +kernel
theorem dX12_goOn_209 : decode cX12_goOn 209 = .ok (.laload, 1) := by decide +kernel
theorem dX12_goOn_210 : decode cX12_goOn 210 = .ok (.aload_n 0, 1) := by decide +kernel
theorem dX12_goOn_211 : decode cX12_goOn 211 = .ok (.getfield 265, 3) := by decide +kernel
theorem dX12_goOn_214 : decode cX12_goOn 214 = .ok (.lload_n 2, 1) := by decide +kernel
theorem dX12_goOn_215 : decode cX12_goOn 215 = .ok (.ldiv, 1) := by decide +kernel
theorem dX12_goOn_216 : decode cX12_goOn 216 = .ok (.lmul, 1) := by decide +kernel
theorem dX12_goOn_217 : decode cX12_goOn 217 = .ok (.aload_n 0, 1) := by decide +kernel
theorem dX12_goOn_218 : decode cX12_goOn 218 = .ok (.getfield 190, 3) := by decide +kernel
theorem dX12_goOn_221 : decode cX12_goOn 221 = .ok (.iload_n 1, 1) := by decide +kernel
theorem dX12_goOn_222 : decode cX12_goOn 222 = .ok (.laload, 1) := by decide +kernel
theorem dX12_goOn_223 : decode cX12_goOn 223 = .ok (.aload_n 0, 1) := by decide +kernel
theorem dX12_goOn_224 : decode cX12_goOn 224 = .ok (.getfield 269, 3) := by decide +kernel
theorem dX12_goOn_227 : decode cX12_goOn 227 = .ok (.lload_n 2, 1) := by decide +kernel
theorem dX12_goOn_228 : decode cX12_goOn 228 = .ok (.ldiv, 1) := by decide +kernel
theorem dX12_goOn_229 : decode cX12_goOn 229 = .ok (.lmul, 1) := by decide +kernel
theorem dX12_goOn_230 : decode cX12_goOn 230 = .ok (.invokevirtual 278, 3) := by decide +kernel
theorem dX12_goOn_233 : decode cX12_goOn 233 = .ok (.return_, 1) := by decide +kernel
set_option maxRecDepth 20000 in
theorem ggX12_finish_X12_stop : GoodIn wsX12_finish wsX12_stop := goodIn_s _ [(11, 4), (25, 58)] rfl (by decide +kernel)
set_option maxRecDepth 20000 in
theorem gX12_finish_X12_stop : GoodIn wsX12_finish (wsV RX12 272 RX12 yX12_stop wsX12_stop) := goodIn_app (goodIn_r _ [7, 8, 9, 10] rfl (by decide +kernel)) ggX12_finish_X12_stop
set_option maxRecDepth 20000 in
theorem ggX12_finish_X12_together : GoodIn wsX12_finish wsX12_together := goodIn_s _ [(18, 3), (3, 1), (21, 3), (10, 1), (24, 1), (7, 3), (11, 4), (25, 58)] rfl (by decide +kernel)
set_option maxRecDepth 20000 in
theorem gX12_finish_X12_together : GoodIn wsX12_finish (wsV RX12 310 RX12 yX12_together wsX12_together) := goodIn_app (goodIn_r _ [15, 16, 17, 10] rfl (by decide +kernel)) ggX12_finish_X12_together
theorem dX12_finish_0 : decode cX12_finish 0 = .ok (.aload_n 0, 1) := by decide +kernel
theorem dX12_finish_1 : decode cX12_finish 1 = .ok (.getfield 184, 3) := by decide +kernel
theorem dX12_finish_4 : decode cX12_finish 4 = .ok (.iload_n 1, 1) := by decide +kernel
theorem dX12_finish_5 : decode cX12_finish 5 = .ok (.iaload, 1) := by decide +kernel
theorem dX12_finish_6 : decode cX12_finish 6 = .ok (.iconst 1, 1) := by decide +kernel
theorem dX12_finish_7 : decode cX12_finish 7 = .ok (.iadd, 1) := by decide +kernel
theorem dX12_finish_8 : decode cX12_finish 8 = .ok (.istore_n 2, 1) := by decide +kernel
theorem dX12_finish_9 : decode cX12_finish 9 = .ok (.aload_n 0, 1) := by decide +kernel
theorem dX12_finish_10 : decode cX12_finish 10 = .ok (.getfield 178, 3) := by decide +kernel
theorem dX12_finish_13 : decode cX12_finish 13 = .ok (.iload_n 1, 1) := by decide +kernel
theorem dX12_finish_14 : decode cX12_finish 14 = .ok (.iaload, 1) := by decide +kernel
theorem dX12_finish_15 : decode cX12_finish 15 = .ok (.bipush 63, 2) := by decide +kernel
theorem dX12_finish_17 : decode cX12_finish 17 = .ok (.if_icmp .ne 7, 3) := by decide +kernel
theorem dX12_finish_20 : decode cX12_finish 20 = .ok (.iconst 1, 1) := by decide +kernel
theorem dX12_finish_21 : decode cX12_finish 21 = .ok (.goto 4, 3) := by decide +kernel
theorem dX12_finish_24 : decode cX12_finish 24 = .ok (.iconst 0, 1) := by decide +kernel
theorem dX12_finish_25 : decode cX12_finish 25 = .ok (.istore_n 3, 1) := by decide +kernel
theorem dX12_finish_26 : decode cX12_finish 26 = .ok (.iload_n 2, 1) := by decide +kernel
theorem dX12_finish_27 : decode cX12_finish 27 = .ok (.iload_n 3, 1) := by decide +kernel
theorem dX12_finish_28 : decode cX12_finish 28 = .ok (.ifCond .eq 8, 3) := by decide +kernel
theorem dX12_finish_31 : decode cX12_finish 31 = .ok (.bipush 8, 2) := by decide +kernel
theorem dX12_finish_33 : decode cX12_finish 33 = .ok (.goto 4, 3) := by decide +kernel
theorem dX12_finish_36 : decode cX12_finish 36 = .ok (.iconst 4, 1) := by decide +kernel
theorem dX12_finish_37 : decode cX12_finish 37 = .ok (.if_icmp .le 17, 3) := by decide +kernel
theorem dX12_finish_40 : decode cX12_finish 40 = .ok (.aload_n 0, 1) := by decide +kernel
theorem dX12_finish_41 : decode cX12_finish 41 = .ok (.iconst 2, 1) := by decide +kernel
theorem dX12_finish_42 : decode cX12_finish 42 = .ok (.aload_n 0, 1) := by decide +kernel
theorem dX12_finish_43 : decode cX12_finish 43 = .ok (.getfield 175, 3) := by decide +kernel
theorem dX12_finish_46 : decode cX12_finish 46 = .ok (.iload_n 1, 1) := by decide +kernel
theorem dX12_finish_47 : decode cX12_finish 47 = .ok (.iaload, 1) := by decide +kernel
theorem dX12_finish_48 : decode cX12_finish 48 = .ok (.invokevirtual 272, 3) := by decide +kernel
theorem dX12_finish_51 : decode cX12_finish 51 = .ok (.goto 88, 3) := by decide +kernel
theorem dX12_finish_54 : decode cX12_finish 54 = .ok (.iload_n 3, 1) := by decide +kernel
theorem dX12_finish_55 : decode cX12_finish 55 = .ok (.ifCond .eq 12, 3) := by decide +kernel
theorem dX12_finish_58 : decode cX12_finish 58 = .ok (.aload_n 0, 1) := by decide +kernel
theorem dX12_finish_59 : decode cX12_finish 59 = .ok (.iload_n 1, 1) := by decide +kernel
theorem dX12_finish_60 : decode cX12_finish 60 = .ok (.iload_n 2, 1) := by decide +kernel
theorem dX12_finish_61 : decode cX12_finish 61 = .ok (.invokevirtual 310, 3) := by decide +kernel
theorem dX12_finish_64 : decode cX12_finish 64 = .ok (.goto 75, 3) := by decide +kernel
theorem dX12_finish_67 : decode cX12_finish 67 = .ok (.aload_n 0, 1) := by decide +kernel
theorem dX12_finish_68 : decode cX12_finish 68 = .ok (.getfield 181, 3) := by decide +kernel
theorem dX12_finish_71 : decode cX12_finish 71 = .ok (.iload_n 1, 1) := by decide +kernel
theorem dX12_finish_72 : decode cX12_finish 72 = .ok (.iaload, 1) := by decide +kernel
theorem dX12_finish_73 : decode cX12_finish 73 = .ok (.istore 4, 2) := by decide +kernel
theorem dX12_finish_75 : decode cX12_finish 75 = .ok (.aload_n 0, 1) := by decide +kernel
theorem dX12_finish_76 : decode cX12_finish 76 = .ok (.getfield 160, 3) := by decide +kernel
theorem dX12_finish_79 : decode cX12_finish 79 = .ok (.bipush 20, 2) := by decide +kernel
theorem dX12_finish_81 : decode cX12_finish 81 = .ok (.aload_n 0, 1) := by decide +kernel
theorem dX12_finish_82 : decode cX12_finish 82 = .ok (.getfield 172, 3) := by decide +kernel
theorem dX12_finish_85 : decode cX12_finish 85 = .ok (.imul, 1) := by decide +kernel
theorem dX12_finish_86 : decode cX12_finish 86 = .ok (.iload 4, 2) := by decide +kernel
theorem dX12_finish_88 : decode cX12_finish 88 = .ok (.iadd, 1) := by decide +kernel
theorem dX12_finish_89 : decode cX12_finish 89 = .ok (.iaload, 1) := by decide +kernel
theorem dX12_finish_90 : decode cX12_finish 90 = .ok (.ifCond .le 33, 3) := by decide +kernel
theorem dX12_finish_93 : decode cX12_finish 93 = .ok (.aload_n 0, 1) := by decide +kernel
theorem dX12_finish_94 : decode cX12_finish 94 = .ok (.getfield 160, 3) := by decide +kernel
theorem dX12_finish_97 : decode cX12_finish 97 = .ok (.bipush 20, 2) := by decide +kernel
theorem dX12_finish_99 : decode cX12_finish 99 = .ok (.aload_n 0, 1) := by decide +kernel
theorem dX12_finish_100 : decode cX12_finish 100 = .ok (.getfield 172, 3) := by decide +kernel
theorem dX12_finish_103 : decode cX12_finish 103 = .ok (.imul, 1) := by decide +kernel
theorem dX12_finish_104 : decode cX12_finish 104 = .ok (.iload 4, 2) := by decide +kernel
theorem dX12_finish_106 : decode cX12_finish 106 = .ok (.iadd, 1) := by decide +kernel
theorem dX12_finish_107 : decode cX12_finish 107 = .ok (.iaload, 1) := by decide +kernel
theorem dX12_finish_108 : decode cX12_finish 108 = .ok (.iload_n 2, 1) := by decide +kernel
theorem dX12_finish_109 : decode cX12_finish 109 = .ok (.if_icmp .eq 14, 3) := by decide +kernel
theorem dX12_finish_112 : decode cX12_finish 112 = .ok (.aload_n 0, 1) := by decide +kernel
theorem dX12_finish_113 : decode cX12_finish 113 = .ok (.iconst 5, 1) := by decide +kernel
theorem dX12_finish_114 : decode cX12_finish 114 = .ok (.aload_n 0, 1) := by decide +kernel
theorem dX12_finish_115 : decode cX12_finish 115 = .ok (.getfield 175, 3) := by decide +kernel
theorem dX12_finish_118 : decode cX12_finish 118 = .ok (.iload_n 1, 1) := by decide +kernel
theorem dX12_finish_119 : decode cX12_finish 119 = .ok (.iaload, 1) := by decide +kernel
theorem dX12_finish_120 : decode cX12_finish 120 = .ok (.invokevirtual 272, 3) := by decide +kernel
theorem dX12_finish_123 : decode cX12_finish 123 = .ok (.aload_n 0, 1) := by decide +kernel
theorem dX12_finish_124 : decode cX12_finish 124 = .ok (.getfield 160, 3) := by decide +kernel
theorem dX12_finish_127 : decode cX12_finish 127 = .ok (.bipush 20, 2) := by decide +kernel
theorem dX12_finish_129 : decode cX12_finish 129 = .ok (.aload_n 0, 1) := by decide +kernel
theorem dX12_finish_130 : decode cX12_finish 130 = .ok (.getfield 172, 3) := by decide +kernel
theorem dX12_finish_133 : decode cX12_finish 133 = .ok (.imul, 1) := by decide +kernel
theorem dX12_finish_134 : decode cX12_finish 134 = .ok (.iload 4, 2) := by decide +kernel
theorem dX12_finish_136 : decode cX12_finish 136 = .ok (.iadd, 1) := by decide +kernel
theorem dX12_finish_137 : decode cX12_finish 137 = .ok (.iload_n 2, 1) := by decide +kernel
theorem dX12_finish_138 : decode cX12_finish 138 = .ok (.iastore, 1) := by decide +kernel
theorem dX12_finish_139 : decode cX12_finish 139 = .ok (.return_, 1) := by decide +kernel
set_option maxRecDepth 20000 in
theorem ggX12_together_X12_divisor : GoodIn wsX12_together wsX12_divisor := goodIn_r _ [8] rfl (by decide +kernel)
set_option maxRecDepth 20000 in
theorem gX12_together_X12_divisor : GoodIn wsX12_together (va_wsS RX12 291 yX12_divisor wsX12_divisor) := goodIn_app (goodIn_r _ [5, 6, 7] rfl (by decide +kernel)) ggX12_together_X12_divisor
set_option maxRecDepth 20000 in
theorem ggX12_together_X12_stop : GoodIn wsX12_together wsX12_stop := goodIn_s _ [(12, 62)] rfl (by decide +kernel)
set_option maxRecDepth 20000 in
theorem gX12_together_X12_stop : GoodIn wsX12_together (wsV RX12 272 RX12 yX12_stop wsX12_stop) := goodIn_app (goodIn_r _ [9, 10, 11, 7] rfl (by decide +kernel)) ggX12_together_X12_stop
theorem dX12_together_0 : decode cX12_together 0 = .ok (.lconst 1, 1) := by decide +kernel
theorem dX12_together_1 : decode cX12_together 1 = .ok (.lstore_n 3, 1) := by decide +kernel
theorem dX12_together_2 : decode cX12_together 2 = .ok (.bipush 9, 2) := by decide +kernel
theorem dX12_together_4 : decode cX12_together 4 = .ok (.iload_n 1, 1) := by decide +kernel
theorem dX12_together_5 : decode cX12_together 5 = .ok (.imul, 1) := by decide +kernel
theorem dX12_together_6 : decode cX12_together 6 = .ok (.istore 5, 2) := by decide +kernel
theorem dX12_together_8 : decode cX12_together 8 = .ok (.iload 5, 2) := by decide +kernel
theorem dX12_together_10 : decode cX12_together 10 = .ok (.bipush 9, 2) := by decide +kernel
theorem dX12_together_12 : decode cX12_together 12 = .ok (.iload_n 1, 1) := by decide +kernel
theorem dX12_together_13 : decode cX12_together 13 = .ok (.imul, 1) := by decide +kernel
theorem dX12_together_14 : decode cX12_together 14 = .ok (.iload_n 2, 1) := by decide +kernel
theorem dX12_together_15 : decode cX12_together 15 = .ok (.iadd, 1) := by decide +kernel
theorem dX12_together_16 : decode cX12_together 16 = .ok (.if_icmp .ge 39, 3) := by decide +kernel
theorem dX12_together_19 : decode cX12_together 19 = .ok (.lload_n 3, 1) := by decide +kernel
theorem dX12_together_20 : decode cX12_together 20 = .ok (.ldc2_w 295, 3) := by decide +kernel
theorem dX12_together_23 : decode cX12_together 23 = .ok (.lcmp, 1) := by decide +kernel
theorem dX12_together_24 : decode cX12_together 24 = .ok (.ifCond .ge 31, 3) := by decide +kernel
theorem dX12_together_27 : decode cX12_together 27 = .ok (.lload_n 3, 1) := by decide +kernel
theorem dX12_together_28 : decode cX12_together 28 = .ok (.lload_n 3, 1) := by decide +kernel
theorem dX12_together_29 : decode cX12_together 29 = .ok (.aload_n 0, 1) := by decide +kernel
theorem dX12_together_30 : decode cX12_together 30 = .ok (.getfield 196, 3) := by decide +kernel
theorem dX12_together_33 : decode cX12_together 33 = .ok (.iload 5, 2) := by decide +kernel
theorem dX12_together_35 : decode cX12_together 35 = .ok (.laload, 1) := by decide +kernel
theorem dX12_together_36 : decode cX12_together 36 = .ok (.invokestatic 291, 3) := by decide +kernel
theorem dX12_together_39 : decode cX12_together 39 = .ok (.ldiv, 1) := by decide +kernel
theorem dX12_together_40 : decode cX12_together 40 = .ok (.aload_n 0, 1) := by decide +kernel
theorem dX12_together_41 : decode cX12_together 41 = .ok (.getfield 196, 3) := by decide +kernel
theorem dX12_together_44 : decode cX12_together 44 = .ok (.iload 5, 2) := by decide +kernel
theorem dX12_together_46 : decode cX12_together 46 = .ok (.laload, 1) := by decide +kernel
theorem dX12_together_47 : decode cX12_together 47 = .ok (.lmul, 1) := by decide +kernel
theorem dX12_together_48 : decode cX12_together 48 = .ok (.lstore_n 3, 1) := by decide +kernel
theorem dX12_together_49 : decode cX12_together 49 = .ok (.iinc 5 1, 3) := by decide +kernel
theorem dX12_together_52 : decode cX12_together 52 = .ok (.goto (-44), 3) := by decide +kernel
theorem dX12_together_55 : decode cX12_together 55 = .ok (.lload_n 3, 1) := by decide +kernel
theorem dX12_together_56 : decode cX12_together 56 = .ok (.ldc2_w 295, 3) := by decide +kernel
theorem dX12_together_59 : decode cX12_together 59 = .ok (.lcmp, 1) := by decide +kernel
theorem dX12_together_60 : decode cX12_together 60 = .ok (.ifCond .lt 16, 3) := by decide +kernel
theorem dX12_together_63 : decode cX12_together 63 = .ok (.aload_n 0, 1) := by decide +kernel
theorem dX12_together_64 : decode cX12_together 64 = .ok (.bipush 6, 2) := by decide +kernel
theorem dX12_together_66 : decode cX12_together 66 = .ok (.aload_n 0, 1) := by decide +kernel
theorem dX12_together_67 : decode cX12_together 67 = .ok (.getfield 175, 3) := by decide +kernel
theorem dX12_together_70 : decode cX12_together 70 = .ok (.iload_n 1, 1) := by decide +kernel
theorem dX12_together_71 : decode cX12_together 71 = .ok (.iaload, 1) := by decide +kernel
theorem dX12_together_72 : decode cX12_together 72 = .ok (.invokevirtual 272, 3) := by decide +kernel
theorem dX12_together_75 : decode cX12_together 75 = .ok (.return_, 1) := by decide +kernel
theorem dX12_together_76 : decode cX12_together 76 = .ok (.lconst 0, 1) := by decide +kernel
theorem dX12_together_77 : decode cX12_together 77 = .ok (.lstore 5, 2) := by decide +kernel
theorem dX12_together_79 : decode cX12_together 79 = .ok (.bipush 9, 2) := by decide +kernel
theorem dX12_together_81 : decode cX12_together 81 = .ok (.iload_n 1, 1) := by decide +kernel
theorem dX12_together_82 : decode cX12_together 82 = .ok (.imul, 1) := by decide +kernel
theorem dX12_together_83 : decode cX12_together 83 = .ok (.istore 7, 2) := by decide +kernel
theorem dX12_together_85 : decode cX12_together 85 = .ok (.iload 7, 2) := by decide +kernel
theorem dX12_together_87 : decode cX12_together 87 = .ok (.bipush 9, 2) := by decide +kernel
theorem dX12_together_89 : decode cX12_together 89 = .ok (.iload_n 1, 1) := by decide +kernel
theorem dX12_together_90 : decode cX12_together 90 = .ok (.imul, 1) := by decide +kernel
theorem dX12_together_91 : decode cX12_together 91 = .ok (.iload_n 2, 1) := by decide +kernel
theorem dX12_together_92 : decode cX12_together 92 = .ok (.iadd, 1) := by decide +kernel
theorem dX12_together_93 : decode cX12_together 93 = .ok (.if_icmp .ge 31, 3) := by decide +kernel
theorem dX12_together_96 : decode cX12_together 96 = .ok (.lload 5, 2) := by decide +kernel
theorem dX12_together_98 : decode cX12_together 98 = .ok (.aload_n 0, 1) := by decide +kernel
theorem dX12_together_99 : decode cX12_together 99 = .ok (.getfield 193, 3) := by decide +kernel
theorem dX12_together_102 : decode cX12_together 102 = .ok (.iload 7, 2) := by decide +kernel
theorem dX12_together_104 : decode cX12_together 104 = .ok (.laload, 1) := by decide +kernel
theorem dX12_together_105 : decode cX12_together 105 = .ok (.lload_n 3, 1) := by decide +kernel
theorem dX12_together_106 : decode cX12_together 106 = .ok (.aload_n 0, 1) := by decide +kernel
theorem dX12_together_107 : decode cX12_together 107 = .ok (.getfield 196, 3) := by decide +kernel
theorem dX12_together_110 : decode cX12_together 110 = .ok (.iload 7, 2) := by decide +kernel
theorem dX12_together_112 : decode cX12_together 112 = .ok (.laload, 1) := by decide +kernel
theorem dX12_together_113 : decode cX12_together 113 = .ok (.ldiv, 1) := by decide +kernel
theorem dX12_together_114 : decode cX12_together 114 = .ok (.lmul, 1) := by decide +kernel
theorem dX12_together_115 : decode cX12_together 115 = .ok (.ladd, 1) := by decide +kernel
theorem dX12_together_116 : decode cX12_together 116 = .ok (.lstore 5, 2) := by decide +kernel
theorem dX12_together_118 : decode cX12_together 118 = .ok (.iinc 7 1, 3) := by decide +kernel
theorem dX12_together_121 : decode cX12_together 121 = .ok (.goto (-36), 3) := by decide +kernel
theorem dX12_together_124 : decode cX12_together 124 = .ok (.lload 5, 2) := by decide +kernel
theorem dX12_together_126 : decode cX12_together 126 = .ok (.lload_n 3, 1) := by decide +kernel
theorem dX12_together_127 : decode cX12_together 127 = .ok (.lcmp, 1) := by decide +kernel
theorem dX12_together_128 : decode cX12_together 128 = .ok (.ifCond .eq 14, 3) := by decide +kernel
theorem dX12_together_131 : decode cX12_together 131 = .ok (.aload_n 0, 1) := by decide +kernel
theorem dX12_together_132 : decode cX12_together 132 = .ok (.iconst 3, 1) := by decide +kernel
theorem dX12_together_133 : decode cX12_together 133 = .ok (.aload_n 0, 1) := by decide +kernel
theorem dX12_together_134 : decode cX12_together 134 = .ok (.getfield 175, 3) := by decide +kernel
theorem dX12_together_137 : decode cX12_together 137 = .ok (.iload_n 1, 1) := by decide +kernel
theorem dX12_together_138 : decode cX12_together 138 = .ok (.iaload, 1) := by decide +kernel
theorem dX12_together_139 : decode cX12_together 139 = .ok (.invokevirtual 272, 3) := by decide +kernel
theorem dX12_together_142 : decode cX12_together 142 = .ok (.return_, 1) := by decide +kernel
set_option maxRecDepth 20000 in
theorem ggX12_over_X12_plansOf : GoodIn wsX12_over wsX12_plansOf := goodIn_s _ [(14, 3), (27, 58)] rfl (by decide +kernel)
set_option maxRecDepth 20000 in
theorem gX12_over_X12_plansOf : GoodIn wsX12_over (wsV RX12 313 RX12 yX12_plansOf wsX12_plansOf) := goodIn_app (goodIn_r _ [10, 11, 12, 13] rfl (by decide +kernel)) ggX12_over_X12_plansOf
set_option maxRecDepth 20000 in
theorem ggX12_over_X12_stop : GoodIn wsX12_over wsX12_stop := goodIn_s _ [(20, 4), (27, 58)] rfl (by decide +kernel)
set_option maxRecDepth 20000 in
theorem gX12_over_X12_stop : GoodIn wsX12_over (wsV RX12 272 RX12 yX12_stop wsX12_stop) := goodIn_app (goodIn_r _ [17, 18, 19, 13] rfl (by decide +kernel)) ggX12_over_X12_stop
set_option maxRecDepth 20000 in
theorem ggX12_over_X12_divisor : GoodIn wsX12_over wsX12_divisor := goodIn_r _ [26] rfl (by decide +kernel)
set_option maxRecDepth 20000 in
theorem gX12_over_X12_divisor : GoodIn wsX12_over (va_wsS RX12 291 yX12_divisor wsX12_divisor) := goodIn_app (goodIn_r _ [24, 25, 13] rfl (by decide +kernel)) ggX12_over_X12_divisor
theorem dX12_over_0 : decode cX12_over 0 = .ok (.aload_n 0, 1) := by decide +kernel
theorem dX12_over_1 : decode cX12_over 1 = .ok (.aload_n 0, 1) := by decide +kernel
theorem dX12_over_2 : decode cX12_over 2 = .ok (.getfield 172, 3) := by decide +kernel
theorem dX12_over_5 : decode cX12_over 5 = .ok (.iconst 0, 1) := by decide +kernel
theorem dX12_over_6 : decode cX12_over 6 = .ok (.invokevirtual 313, 3) := by decide +kernel
theorem dX12_over_9 : decode cX12_over 9 = .ok (.bipush 64, 2) := by decide +kernel
theorem dX12_over_11 : decode cX12_over 11 = .ok (.if_icmp .gt 17, 3) := by decide +kernel
theorem dX12_over_14 : decode cX12_over 14 = .ok (.aload_n 0, 1) := by decide +kernel
theorem dX12_over_15 : decode cX12_over 15 = .ok (.aload_n 0, 1) := by decide +kernel
theorem dX12_over_16 : decode cX12_over 16 = .ok (.getfield 172, 3) := by decide +kernel
theorem dX12_over_19 : decode cX12_over 19 = .ok (.iconst 1, 1) := by decide +kernel
theorem dX12_over_20 : decode cX12_over 20 = .ok (.invokevirtual 313, 3) := by decide +kernel
theorem dX12_over_23 : decode cX12_over 23 = .ok (.bipush 64, 2) := by decide +kernel
theorem dX12_over_25 : decode cX12_over 25 = .ok (.if_icmp .le 15, 3) := by decide +kernel
theorem dX12_over_28 : decode cX12_over 28 = .ok (.aload_n 0, 1) := by decide +kernel
theorem dX12_over_29 : decode cX12_over 29 = .ok (.iconst 2, 1) := by decide +kernel
theorem dX12_over_30 : decode cX12_over 30 = .ok (.aload_n 0, 1) := by decide +kernel
theorem dX12_over_31 : decode cX12_over 31 = .ok (.getfield 235, 3) := by decide +kernel
theorem dX12_over_34 : decode cX12_over 34 = .ok (.iconst 1, 1) := by decide +kernel
theorem dX12_over_35 : decode cX12_over 35 = .ok (.isub, 1) := by decide +kernel
theorem dX12_over_36 : decode cX12_over 36 = .ok (.invokevirtual 272, 3) := by decide +kernel
theorem dX12_over_39 : decode cX12_over 39 = .ok (.return_, 1) := by decide +kernel
theorem dX12_over_40 : decode cX12_over 40 = .ok (.lconst 1, 1) := by decide +kernel
theorem dX12_over_41 : decode cX12_over 41 = .ok (.lstore_n 1, 1) := by decide +kernel
theorem dX12_over_42 : decode cX12_over 42 = .ok (.sipush 400, 3) := by decide +kernel
theorem dX12_over_45 : decode cX12_over 45 = .ok (.aload_n 0, 1) := by decide +kernel
theorem dX12_over_46 : decode cX12_over 46 = .ok (.getfield 172, 3) := by decide +kernel
theorem dX12_over_49 : decode cX12_over 49 = .ok (.imul, 1) := by decide +kernel
theorem dX12_over_50 : decode cX12_over 50 = .ok (.istore_n 3, 1) := by decide +kernel
theorem dX12_over_51 : decode cX12_over 51 = .ok (.iload_n 3, 1) := by decide +kernel
theorem dX12_over_52 : decode cX12_over 52 = .ok (.sipush 400, 3) := by decide +kernel
theorem dX12_over_55 : decode cX12_over 55 = .ok (.aload_n 0, 1) := by decide +kernel
theorem dX12_over_56 : decode cX12_over 56 = .ok (.getfield 172, 3) := by decide +kernel
theorem dX12_over_59 : decode cX12_over 59 = .ok (.imul, 1) := by decide +kernel
theorem dX12_over_60 : decode cX12_over 60 = .ok (.aload_n 0, 1) := by decide +kernel
theorem dX12_over_61 : decode cX12_over 61 = .ok (.getfield 117, 3) := by decide +kernel
theorem dX12_over_64 : decode cX12_over 64 = .ok (.aload_n 0, 1) := by decide +kernel
theorem dX12_over_65 : decode cX12_over 65 = .ok (.getfield 172, 3) := by decide +kernel
theorem dX12_over_68 : decode cX12_over 68 = .ok (.iaload, 1) := by decide +kernel
theorem dX12_over_69 : decode cX12_over 69 = .ok (.iadd, 1) := by decide +kernel
theorem dX12_over_70 : decode cX12_over 70 = .ok (.if_icmp .ge 52, 3) := by decide +kernel
theorem dX12_over_73 : decode cX12_over 73 = .ok (.lload_n 1, 1) := by decide +kernel
theorem dX12_over_74 : decode cX12_over 74 = .ok (.ldc2_w 295, 3) := by decide +kernel
theorem dX12_over_77 : decode cX12_over 77 = .ok (.lcmp, 1) := by decide +kernel
theorem dX12_over_78 : decode cX12_over 78 = .ok (.ifCond .ge 44, 3) := by decide +kernel
theorem dX12_over_81 : decode cX12_over 81 = .ok (.aload_n 0, 1) := by decide +kernel
theorem dX12_over_82 : decode cX12_over 82 = .ok (.getfield 130, 3) := by decide +kernel
theorem dX12_over_85 : decode cX12_over 85 = .ok (.iload_n 3, 1) := by decide +kernel
theorem dX12_over_86 : decode cX12_over 86 = .ok (.laload, 1) := by decide +kernel
theorem dX12_over_87 : decode cX12_over 87 = .ok (.lstore 4, 2) := by decide +kernel
theorem dX12_over_89 : decode cX12_over 89 = .ok (.lload 4, 2) := by decide +kernel
theorem dX12_over_91 : decode cX12_over 91 = .ok (.ldc2_w 295, 3) := by decide +kernel
theorem dX12_over_94 : decode cX12_over 94 = .ok (.lcmp, 1) := by decide +kernel
theorem dX12_over_95 : decode cX12_over 95 = .ok (.ifCond .lt 9, 3) := by decide +kernel
theorem dX12_over_98 : decode cX12_over 98 = .ok (.ldc2_w 295, 3) := by decide +kernel
theorem dX12_over_101 : decode cX12_over 101 = .ok (.goto 14, 3) := by decide +kernel
theorem dX12_over_104 : decode cX12_over 104 = .ok (.lload_n 1, 1) := by decide +kernel
theorem dX12_over_105 : decode cX12_over 105 = .ok (.lload_n 1, 1) := by decide +kernel
theorem dX12_over_106 : decode cX12_over 106 = .ok (.lload 4, 2) := by decide +kernel
theorem dX12_over_108 : decode cX12_over 108 = .ok (.invokestatic 291, 3) := by decide +kernel
theorem dX12_over_111 : decode cX12_over 111 = .ok (.ldiv, 1) := by decide +kernel
theorem dX12_over_112 : decode cX12_over 112 = .ok (.lload 4, 2) := by decide +kernel
theorem dX12_over_114 : decode cX12_over 114 = .ok (.lmul, 1) := by decide +kernel
theorem dX12_over_115 : decode cX12_over 115 = .ok (.lstore_n 1, 1) := by decide +kernel
theorem dX12_over_116 : decode cX12_over 116 = .ok (.iinc 3 1, 3) := by decide +kernel
theorem dX12_over_119 : decode cX12_over 119 = .ok (.goto (-68), 3) := by decide +kernel
theorem dX12_over_122 : decode cX12_over 122 = .ok (.lload_n 1, 1) := by decide +kernel
theorem dX12_over_123 : decode cX12_over 123 = .ok (.ldc2_w 295, 3) := by decide +kernel
theorem dX12_over_126 : decode cX12_over 126 = .ok (.lcmp, 1) := by decide +kernel
theorem dX12_over_127 : decode cX12_over 127 = .ok (.ifCond .lt 16, 3) := by decide +kernel
theorem dX12_over_130 : decode cX12_over 130 = .ok (.aload_n 0, 1) := by decide +kernel
theorem dX12_over_131 : decode cX12_over 131 = .ok (.bipush 6, 2) := by decide +kernel
theorem dX12_over_133 : decode cX12_over 133 = .ok (.aload_n 0, 1) := by decide +kernel
theorem dX12_over_134 : decode cX12_over 134 = .ok (.getfield 235, 3) := by decide +kernel
theorem dX12_over_137 : decode cX12_over 137 = .ok (.iconst 1, 1) := by decide +kernel
theorem dX12_over_138 : decode cX12_over 138 = .ok (.isub, 1) := by decide +kernel
theorem dX12_over_139 : decode cX12_over 139 = .ok (.invokevirtual 272, 3) := by decide +kernel
theorem dX12_over_142 : decode cX12_over 142 = .ok (.return_, 1) := by decide +kernel
theorem dX12_over_143 : decode cX12_over 143 = .ok (.aload_n 0, 1) := by decide +kernel
theorem dX12_over_144 : decode cX12_over 144 = .ok (.getfield 151, 3) := by decide +kernel
theorem dX12_over_147 : decode cX12_over 147 = .ok (.aload_n 0, 1) := by decide +kernel
theorem dX12_over_148 : decode cX12_over 148 = .ok (.getfield 172, 3) := by decide +kernel
theorem dX12_over_151 : decode cX12_over 151 = .ok (.lload_n 1, 1) := by decide +kernel
theorem dX12_over_152 : decode cX12_over 152 = .ok (.lastore, 1) := by decide +kernel
theorem dX12_over_153 : decode cX12_over 153 = .ok (.sipush 400, 3) := by decide +kernel
theorem dX12_over_156 : decode cX12_over 156 = .ok (.aload_n 0, 1) := by decide +kernel
theorem dX12_over_157 : decode cX12_over 157 = .ok (.getfield 172, 3) := by decide +kernel
theorem dX12_over_160 : decode cX12_over 160 = .ok (.imul, 1) := by decide +kernel
theorem dX12_over_161 : decode cX12_over 161 = .ok (.istore_n 3, 1) := by decide +kernel
theorem dX12_over_162 : decode cX12_over 162 = .ok (.iload_n 3, 1) := by decide +kernel
theorem dX12_over_163 : decode cX12_over 163 = .ok (.sipush 400, 3) := by decide +kernel
theorem dX12_over_166 : decode cX12_over 166 = .ok (.aload_n 0, 1) := by decide +kernel
theorem dX12_over_167 : decode cX12_over 167 = .ok (.getfield 172, 3) := by decide +kernel
theorem dX12_over_170 : decode cX12_over 170 = .ok (.imul, 1) := by decide +kernel
theorem dX12_over_171 : decode cX12_over 171 = .ok (.aload_n 0, 1) := by decide +kernel
theorem dX12_over_172 : decode cX12_over 172 = .ok (.getfield 117, 3) := by decide +kernel
theorem dX12_over_175 : decode cX12_over 175 = .ok (.aload_n 0, 1) := by decide +kernel
theorem dX12_over_176 : decode cX12_over 176 = .ok (.getfield 172, 3) := by decide +kernel
theorem dX12_over_179 : decode cX12_over 179 = .ok (.iaload, 1) := by decide +kernel
theorem dX12_over_180 : decode cX12_over 180 = .ok (.iadd, 1) := by decide +kernel
theorem dX12_over_181 : decode cX12_over 181 = .ok (.if_icmp .ge 109, 3) := by decide +kernel
theorem dX12_over_184 : decode cX12_over 184 = .ok (.aload_n 0, 1) := by decide +kernel
theorem dX12_over_185 : decode cX12_over 185 = .ok (.getfield 126, 3) := by decide +kernel
theorem dX12_over_188 : decode cX12_over 188 = .ok (.iload_n 3, 1) := by decide +kernel
theorem dX12_over_189 : decode cX12_over 189 = .ok (.laload, 1) := by decide +kernel
theorem dX12_over_190 : decode cX12_over 190 = .ok (.lstore 4, 2) := by decide +kernel
theorem dX12_over_192 : decode cX12_over 192 = .ok (.lload 4, 2) := by decide +kernel
theorem dX12_over_194 : decode cX12_over 194 = .ok (.ldc2_w 295, 3) := by decide +kernel
theorem dX12_over_197 : decode cX12_over 197 = .ok (.lcmp, 1) := by decide +kernel
theorem dX12_over_198 : decode cX12_over 198 = .ok (.ifCond .ge 12, 3) := by decide +kernel
theorem dX12_over_201 : decode cX12_over 201 = .ok (.lload 4, 2) := by decide +kernel
theorem dX12_over_203 : decode cX12_over 203 = .ok (.ldc2_w 316, 3) := by decide +kernel
theorem dX12_over_206 : decode cX12_over 206 = .ok (.lcmp, 1) := by decide +kernel
theorem dX12_over_207 : decode cX12_over 207 = .ok (.ifCond .gt 7, 3) := by decide +kernel
theorem dX12_over_210 : decode cX12_over 210 = .ok (.iconst 1, 1) := by decide +kernel
theorem dX12_over_211 : decode cX12_over 211 = .ok (.goto 4, 3) := by decide +kernel
theorem dX12_over_214 : decode cX12_over 214 = .ok (.iconst 0, 1) := by decide +kernel
theorem dX12_over_215 : decode cX12_over 215 = .ok (.istore 6, 2) := by decide +kernel
theorem dX12_over_217 : decode cX12_over 217 = .ok (.aload_n 0, 1) := by decide +kernel
theorem dX12_over_218 : decode cX12_over 218 = .ok (.getfield 133, 3) := by decide +kernel
theorem dX12_over_221 : decode cX12_over 221 = .ok (.iload_n 3, 1) := by decide +kernel
theorem dX12_over_222 : decode cX12_over 222 = .ok (.iload 6, 2) := by decide +kernel
theorem dX12_over_224 : decode cX12_over 224 = .ok (.ifCond .eq 9, 3) := by decide +kernel
theorem dX12_over_227 : decode cX12_over 227 = .ok (.ldc2_w 295, 3) := by decide +kernel
theorem dX12_over_230 : decode cX12_over 230 = .ok (.goto 14, 3) := by decide +kernel
theorem dX12_over_233 : decode cX12_over 233 = .ok (.lload_n 1, 1) := by decide +kernel
theorem dX12_over_234 : decode cX12_over 234 = .ok (.aload_n 0, 1) := by decide +kernel
theorem dX12_over_235 : decode cX12_over 235 = .ok (.getfield 130, 3) := by decide +kernel
theorem dX12_over_238 : decode cX12_over 238 = .ok (.iload_n 3, 1) := by decide +kernel
theorem dX12_over_239 : decode cX12_over 239 = .ok (.laload, 1) := by decide +kernel
theorem dX12_over_240 : decode cX12_over 240 = .ok (.ldiv, 1) := by decide +kernel
theorem dX12_over_241 : decode cX12_over 241 = .ok (.lload 4, 2) := by decide +kernel
theorem dX12_over_243 : decode cX12_over 243 = .ok (.lmul, 1) := by decide +kernel
theorem dX12_over_244 : decode cX12_over 244 = .ok (.lastore, 1) := by decide +kernel
theorem dX12_over_245 : decode cX12_over 245 = .ok (.aload_n 0, 1) := by decide +kernel
theorem dX12_over_246 : decode cX12_over 246 = .ok (.getfield 133, 3) := by decide +kernel
theorem dX12_over_249 : decode cX12_over 249 = .ok (.iload_n 3, 1) := by decide +kernel
theorem dX12_over_250 : decode cX12_over 250 = .ok (.laload, 1) := by decide +kernel
theorem dX12_over_251 : decode cX12_over 251 = .ok (.ldc2_w 295, 3) := by decide +kernel
theorem dX12_over_254 : decode cX12_over 254 = .ok (.lcmp, 1) := by decide +kernel
theorem dX12_over_255 : decode cX12_over 255 = .ok (.ifCond .ge 16, 3) := by decide +kernel
theorem dX12_over_258 : decode cX12_over 258 = .ok (.aload_n 0, 1) := by decide +kernel
theorem dX12_over_259 : decode cX12_over 259 = .ok (.getfield 133, 3) := by decide +kernel
theorem dX12_over_262 : decode cX12_over 262 = .ok (.iload_n 3, 1) := by decide +kernel
theorem dX12_over_263 : decode cX12_over 263 = .ok (.laload, 1) := by decide +kernel
theorem dX12_over_264 : decode cX12_over 264 = .ok (.ldc2_w 316, 3) := by decide +kernel
theorem dX12_over_267 : decode cX12_over 267 = .ok (.lcmp, 1) := by decide +kernel
theorem dX12_over_268 : decode cX12_over 268 = .ok (.ifCond .gt 16, 3) := by decide +kernel
theorem dX12_over_271 : decode cX12_over 271 = .ok (.aload_n 0, 1) := by decide +kernel
theorem dX12_over_272 : decode cX12_over 272 = .ok (.bipush 6, 2) := by decide +kernel
theorem dX12_over_274 : decode cX12_over 274 = .ok (.aload_n 0, 1) := by decide +kernel
theorem dX12_over_275 : decode cX12_over 275 = .ok (.getfield 235, 3) := by decide +kernel
theorem dX12_over_278 : decode cX12_over 278 = .ok (.iconst 1, 1) := by decide +kernel
theorem dX12_over_279 : decode cX12_over 279 = .ok (.isub, 1) := by decide +kernel
theorem dX12_over_280 : decode cX12_over 280 = .ok (.invokevirtual 272, 3) := by decide +kernel
theorem dX12_over_283 : decode cX12_over 283 = .ok (.return_, 1) := by decide +kernel
theorem dX12_over_284 : decode cX12_over 284 = .ok (.iinc 3 1, 3) := by decide +kernel
theorem dX12_over_287 : decode cX12_over 287 = .ok (.goto (-125), 3) := by decide +kernel
theorem dX12_over_290 : decode cX12_over 290 = .ok (.return_, 1) := by decide +kernel
set_option maxRecDepth 20000 in
theorem ggX12_read_X12_cut : GoodIn wsX12_read wsX12_cut := goodIn_s _ [(17, 2), (2, 1), (19, 2), (3, 1), (21, 3), (16, 1), (24, 4), (130, 58)] rfl (by decide +kernel)
