set_option maxRecDepth 20000 in
theorem gX12_bigAdd_X12_bigSizes : GoodIn wsX12_bigAdd (wsV RX12 28 RX12 yX12_bigSizes wsX12_bigSizes) := goodIn_app (goodIn_r _ [18, 19, 20, 5] rfl (by decide +kernel)) ggX12_bigAdd_X12_bigSizes
set_option maxRecDepth 20000 in
theorem ggX12_bigAdd_X12_bigDiffer : GoodIn wsX12_bigAdd wsX12_bigDiffer := goodIn_s _ [(25, 1), (7, 6), (5, 1), (13, 5), (26, 62)] rfl (by decide +kernel)
set_option maxRecDepth 20000 in
theorem gX12_bigAdd_X12_bigDiffer : GoodIn wsX12_bigAdd (wsV RX12 40 RX12 yX12_bigDiffer wsX12_bigDiffer) := goodIn_app (goodIn_r _ [22, 23, 24, 5] rfl (by decide +kernel)) ggX12_bigAdd_X12_bigDiffer
theorem dX12_bigAdd_0 : decode cX12_bigAdd 0 = .ok (.aload_n 0, 1) := by decide +kernel
theorem dX12_bigAdd_1 : decode cX12_bigAdd 1 = .ok (.getfield 4, 3) := by decide +kernel
theorem dX12_bigAdd_4 : decode cX12_bigAdd 4 = .ok (.iload_n 2, 1) := by decide +kernel
theorem dX12_bigAdd_5 : decode cX12_bigAdd 5 = .ok (.baload, 1) := by decide +kernel
theorem dX12_bigAdd_6 : decode cX12_bigAdd 6 = .ok (.iload_n 3, 1) := by decide +kernel
theorem dX12_bigAdd_7 : decode cX12_bigAdd 7 = .ok (.if_icmp .eq 7, 3) := by decide +kernel
theorem dX12_bigAdd_10 : decode cX12_bigAdd 10 = .ok (.iconst 1, 1) := by decide +kernel
theorem dX12_bigAdd_11 : decode cX12_bigAdd 11 = .ok (.goto 4, 3) := by decide +kernel
theorem dX12_bigAdd_14 : decode cX12_bigAdd 14 = .ok (.iconst 0, 1) := by decide +kernel
theorem dX12_bigAdd_15 : decode cX12_bigAdd 15 = .ok (.istore 4, 2) := by decide +kernel
theorem dX12_bigAdd_17 : decode cX12_bigAdd 17 = .ok (.aload_n 0, 1) := by decide +kernel
theorem dX12_bigAdd_18 : decode cX12_bigAdd 18 = .ok (.getfield 4, 3) := by decide +kernel
theorem dX12_bigAdd_21 : decode cX12_bigAdd 21 = .ok (.iload_n 1, 1) := by decide +kernel
theorem dX12_bigAdd_22 : decode cX12_bigAdd 22 = .ok (.baload, 1) := by decide +kernel
theorem dX12_bigAdd_23 : decode cX12_bigAdd 23 = .ok (.iload 4, 2) := by decide +kernel
theorem dX12_bigAdd_25 : decode cX12_bigAdd 25 = .ok (.if_icmp .ne 12, 3) := by decide +kernel
theorem dX12_bigAdd_28 : decode cX12_bigAdd 28 = .ok (.aload_n 0, 1) := by decide +kernel
theorem dX12_bigAdd_29 : decode cX12_bigAdd 29 = .ok (.iload_n 1, 1) := by decide +kernel
theorem dX12_bigAdd_30 : decode cX12_bigAdd 30 = .ok (.iload_n 2, 1) := by decide +kernel
theorem dX12_bigAdd_31 : decode cX12_bigAdd 31 = .ok (.invokevirtual 36, 3) := by decide +kernel
theorem dX12_bigAdd_34 : decode cX12_bigAdd 34 = .ok (.goto 37, 3) := by decide +kernel
theorem dX12_bigAdd_37 : decode cX12_bigAdd 37 = .ok (.aload_n 0, 1) := by decide +kernel
theorem dX12_bigAdd_38 : decode cX12_bigAdd 38 = .ok (.iload_n 1, 1) := by decide +kernel
theorem dX12_bigAdd_39 : decode cX12_bigAdd 39 = .ok (.iload_n 2, 1) := by decide +kernel
theorem dX12_bigAdd_40 : decode cX12_bigAdd 40 = .ok (.invokevirtual 28, 3) := by decide +kernel
theorem dX12_bigAdd_43 : decode cX12_bigAdd 43 = .ok (.ifCond .lt 13, 3) := by decide +kernel
theorem dX12_bigAdd_46 : decode cX12_bigAdd 46 = .ok (.aload_n 0, 1) := by decide +kernel
theorem dX12_bigAdd_47 : decode cX12_bigAdd 47 = .ok (.iload_n 1, 1) := by decide +kernel
theorem dX12_bigAdd_48 : decode cX12_bigAdd 48 = .ok (.iload_n 2, 1) := by decide +kernel
theorem dX12_bigAdd_49 : decode cX12_bigAdd 49 = .ok (.iconst 0, 1) := by decide +kernel
theorem dX12_bigAdd_50 : decode cX12_bigAdd 50 = .ok (.invokevirtual 40, 3) := by decide +kernel
theorem dX12_bigAdd_53 : decode cX12_bigAdd 53 = .ok (.goto 18, 3) := by decide +kernel
theorem dX12_bigAdd_56 : decode cX12_bigAdd 56 = .ok (.aload_n 0, 1) := by decide +kernel
theorem dX12_bigAdd_57 : decode cX12_bigAdd 57 = .ok (.iload_n 1, 1) := by decide +kernel
theorem dX12_bigAdd_58 : decode cX12_bigAdd 58 = .ok (.iload_n 2, 1) := by decide +kernel
theorem dX12_bigAdd_59 : decode cX12_bigAdd 59 = .ok (.iconst 1, 1) := by decide +kernel
theorem dX12_bigAdd_60 : decode cX12_bigAdd 60 = .ok (.invokevirtual 40, 3) := by decide +kernel
theorem dX12_bigAdd_63 : decode cX12_bigAdd 63 = .ok (.aload_n 0, 1) := by decide +kernel
theorem dX12_bigAdd_64 : decode cX12_bigAdd 64 = .ok (.getfield 4, 3) := by decide +kernel
theorem dX12_bigAdd_67 : decode cX12_bigAdd 67 = .ok (.iload_n 1, 1) := by decide +kernel
theorem dX12_bigAdd_68 : decode cX12_bigAdd 68 = .ok (.iload 4, 2) := by decide +kernel
theorem dX12_bigAdd_70 : decode cX12_bigAdd 70 = .ok (.bastore, 1) := by decide +kernel
theorem dX12_bigAdd_71 : decode cX12_bigAdd 71 = .ok (.return_, 1) := by decide +kernel
set_option maxRecDepth 20000 in
theorem ggX12_bigProduct_X12_from : GoodIn wsX12_bigProduct wsX12_from := goodIn_r _ [8, 9] rfl (by decide +kernel)
set_option maxRecDepth 20000 in
theorem gX12_bigProduct_X12_from : GoodIn wsX12_bigProduct (va_wsS RX12 12 yX12_from wsX12_from) := goodIn_app (goodIn_r _ [5, 6, 7] rfl (by decide +kernel)) ggX12_bigProduct_X12_from
set_option maxRecDepth 20000 in
theorem ggX12_bigProduct_X12_bigTrim : GoodIn wsX12_bigProduct wsX12_bigTrim := goodIn_s _ [(13, 1), (1, 2), (5, 5), (14, 58)] rfl (by decide +kernel)
set_option maxRecDepth 20000 in
theorem gX12_bigProduct_X12_bigTrim : GoodIn wsX12_bigProduct (wsV RX12 32 RX12 yX12_bigTrim wsX12_bigTrim) := goodIn_app (goodIn_r _ [10, 11, 12, 7] rfl (by decide +kernel)) ggX12_bigProduct_X12_bigTrim
theorem dX12_bigProduct_0 : decode cX12_bigProduct 0 = .ok (.aload_n 0, 1) := by decide +kernel
theorem dX12_bigProduct_1 : decode cX12_bigProduct 1 = .ok (.getfield 18, 3) := by decide +kernel
theorem dX12_bigProduct_4 : decode cX12_bigProduct 4 = .ok (.iload_n 1, 1) := by decide +kernel
theorem dX12_bigProduct_5 : decode cX12_bigProduct 5 = .ok (.aload_n 0, 1) := by decide +kernel
theorem dX12_bigProduct_6 : decode cX12_bigProduct 6 = .ok (.getfield 18, 3) := by decide +kernel
theorem dX12_bigProduct_9 : decode cX12_bigProduct 9 = .ok (.iload_n 2, 1) := by decide +kernel
theorem dX12_bigProduct_10 : decode cX12_bigProduct 10 = .ok (.iaload, 1) := by decide +kernel
theorem dX12_bigProduct_11 : decode cX12_bigProduct 11 = .ok (.aload_n 0, 1) := by decide +kernel
theorem dX12_bigProduct_12 : decode cX12_bigProduct 12 = .ok (.getfield 18, 3) := by decide +kernel
theorem dX12_bigProduct_15 : decode cX12_bigProduct 15 = .ok (.iload_n 3, 1) := by decide +kernel
theorem dX12_bigProduct_16 : decode cX12_bigProduct 16 = .ok (.iaload, 1) := by decide +kernel
theorem dX12_bigProduct_17 : decode cX12_bigProduct 17 = .ok (.iadd, 1) := by decide +kernel
theorem dX12_bigProduct_18 : decode cX12_bigProduct 18 = .ok (.iastore, 1) := by decide +kernel
theorem dX12_bigProduct_19 : decode cX12_bigProduct 19 = .ok (.iconst 0, 1) := by decide +kernel
theorem dX12_bigProduct_20 : decode cX12_bigProduct 20 = .ok (.istore 4, 2) := by decide +kernel
theorem dX12_bigProduct_22 : decode cX12_bigProduct 22 = .ok (.iload 4, 2) := by decide +kernel
theorem dX12_bigProduct_24 : decode cX12_bigProduct 24 = .ok (.aload_n 0, 1) := by decide +kernel
theorem dX12_bigProduct_25 : decode cX12_bigProduct 25 = .ok (.getfield 18, 3) := by decide +kernel
theorem dX12_bigProduct_28 : decode cX12_bigProduct 28 = .ok (.iload_n 1, 1) := by decide +kernel
theorem dX12_bigProduct_29 : decode cX12_bigProduct 29 = .ok (.iaload, 1) := by decide +kernel
theorem dX12_bigProduct_30 : decode cX12_bigProduct 30 = .ok (.if_icmp .ge 22, 3) := by decide +kernel
theorem dX12_bigProduct_33 : decode cX12_bigProduct 33 = .ok (.aload_n 0, 1) := by decide +kernel
theorem dX12_bigProduct_34 : decode cX12_bigProduct 34 = .ok (.getfield 8, 3) := by decide +kernel
theorem dX12_bigProduct_37 : decode cX12_bigProduct 37 = .ok (.iload_n 1, 1) := by decide +kernel
theorem dX12_bigProduct_38 : decode cX12_bigProduct 38 = .ok (.invokestatic 12, 3) := by decide +kernel
theorem dX12_bigProduct_41 : decode cX12_bigProduct 41 = .ok (.iload 4, 2) := by decide +kernel
theorem dX12_bigProduct_43 : decode cX12_bigProduct 43 = .ok (.iadd, 1) := by decide +kernel
theorem dX12_bigProduct_44 : decode cX12_bigProduct 44 = .ok (.iconst 0, 1) := by decide +kernel
theorem dX12_bigProduct_45 : decode cX12_bigProduct 45 = .ok (.iastore, 1) := by decide +kernel
theorem dX12_bigProduct_46 : decode cX12_bigProduct 46 = .ok (.iinc 4 1, 3) := by decide +kernel
theorem dX12_bigProduct_49 : decode cX12_bigProduct 49 = .ok (.goto (-27), 3) := by decide +kernel
theorem dX12_bigProduct_52 : decode cX12_bigProduct 52 = .ok (.iconst 0, 1) := by decide +kernel
theorem dX12_bigProduct_53 : decode cX12_bigProduct 53 = .ok (.istore 4, 2) := by decide +kernel
theorem dX12_bigProduct_55 : decode cX12_bigProduct 55 = .ok (.iload 4, 2) := by decide +kernel
theorem dX12_bigProduct_57 : decode cX12_bigProduct 57 = .ok (.aload_n 0, 1) := by decide +kernel
theorem dX12_bigProduct_58 : decode cX12_bigProduct 58 = .ok (.getfield 18, 3) := by decide +kernel
theorem dX12_bigProduct_61 : decode cX12_bigProduct 61 = .ok (.iload_n 2, 1) := by decide +kernel
theorem dX12_bigProduct_62 : decode cX12_bigProduct 62 = .ok (.iaload, 1) := by decide +kernel
theorem dX12_bigProduct_63 : decode cX12_bigProduct 63 = .ok (.if_icmp .ge 129, 3) := by decide +kernel
theorem dX12_bigProduct_66 : decode cX12_bigProduct 66 = .ok (.lconst 0, 1) := by decide +kernel
theorem dX12_bigProduct_67 : decode cX12_bigProduct 67 = .ok (.lstore 5, 2) := by decide +kernel
theorem dX12_bigProduct_69 : decode cX12_bigProduct 69 = .ok (.iconst 0, 1) := by decide +kernel
theorem dX12_bigProduct_70 : decode cX12_bigProduct 70 = .ok (.istore 7, 2) := by decide +kernel
theorem dX12_bigProduct_72 : decode cX12_bigProduct 72 = .ok (.iload 7, 2) := by decide +kernel
theorem dX12_bigProduct_74 : decode cX12_bigProduct 74 = .ok (.aload_n 0, 1) := by decide +kernel
theorem dX12_bigProduct_75 : decode cX12_bigProduct 75 = .ok (.getfield 18, 3) := by decide +kernel
theorem dX12_bigProduct_78 : decode cX12_bigProduct 78 = .ok (.iload_n 3, 1) := by decide +kernel
theorem dX12_bigProduct_79 : decode cX12_bigProduct 79 = .ok (.iaload, 1) := by decide +kernel
theorem dX12_bigProduct_80 : decode cX12_bigProduct 80 = .ok (.if_icmp .ge 84, 3) := by decide +kernel
theorem dX12_bigProduct_83 : decode cX12_bigProduct 83 = .ok (.iload_n 1, 1) := by decide +kernel
theorem dX12_bigProduct_84 : decode cX12_bigProduct 84 = .ok (.invokestatic 12, 3) := by decide +kernel
theorem dX12_bigProduct_87 : decode cX12_bigProduct 87 = .ok (.iload 4, 2) := by decide +kernel
theorem dX12_bigProduct_89 : decode cX12_bigProduct 89 = .ok (.iadd, 1) := by decide +kernel
theorem dX12_bigProduct_90 : decode cX12_bigProduct 90 = .ok (.iload 7, 2) := by decide +kernel
theorem dX12_bigProduct_92 : decode cX12_bigProduct 92 = .ok (.iadd, 1) := by decide +kernel
theorem dX12_bigProduct_93 : decode cX12_bigProduct 93 = .ok (.istore 8, 2) := by decide +kernel
theorem dX12_bigProduct_95 : decode cX12_bigProduct 95 = .ok (.lload 5, 2) := by decide +kernel
theorem dX12_bigProduct_97 : decode cX12_bigProduct 97 = .ok (.aload_n 0, 1) := by decide +kernel
theorem dX12_bigProduct_98 : decode cX12_bigProduct 98 = .ok (.getfield 8, 3) := by decide +kernel
theorem dX12_bigProduct_101 : decode cX12_bigProduct 101 = .ok (.iload 8, 2) := by decide +kernel
theorem dX12_bigProduct_103 : decode cX12_bigProduct 103 = .ok (.iaload, 1) := by decide +kernel
theorem dX12_bigProduct_104 : decode cX12_bigProduct 104 = .ok (.i2l, 1) := by decide +kernel
theorem dX12_bigProduct_105 : decode cX12_bigProduct 105 = .ok (.ladd, 1) := by decide +kernel
theorem dX12_bigProduct_106 : decode cX12_bigProduct 106 = .ok (.aload_n 0, 1) := by decide +kernel
theorem dX12_bigProduct_107 : decode cX12_bigProduct 107 = .ok (.getfield 8, 3) := by decide +kernel
theorem dX12_bigProduct_110 : decode cX12_bigProduct 110 = .ok (.iload_n 2, 1) := by decide +kernel
theorem dX12_bigProduct_111 : decode cX12_bigProduct 111 = .ok (.invokestatic 12, 3) := by decide +kernel
theorem dX12_bigProduct_114 : decode cX12_bigProduct 114 = .ok (.iload 4, 2) := by decide +kernel
theorem dX12_bigProduct_116 : decode cX12_bigProduct 116 = .ok (.iadd, 1) := by decide +kernel
theorem dX12_bigProduct_117 : decode cX12_bigProduct 117 = .ok (.iaload, 1) := by decide +kernel
theorem dX12_bigProduct_118 : decode cX12_bigProduct 118 = .ok (.i2l, 1) := by decide +kernel
theorem dX12_bigProduct_119 : decode cX12_bigProduct 119 = .ok (.aload_n 0, 1) := by decide +kernel
theorem dX12_bigProduct_120 : decode cX12_bigProduct 120 = .ok (.getfield 8, 3) := by decide +kernel
theorem dX12_bigProduct_123 : decode cX12_bigProduct 123 = .ok (.iload_n 3, 1) := by decide +kernel
theorem dX12_bigProduct_124 : decode cX12_bigProduct 124 = .ok (.invokestatic 12, 3) := by decide +kernel
theorem dX12_bigProduct_127 : decode cX12_bigProduct 127 = .ok (.iload 7, 2) := by decide +kernel
theorem dX12_bigProduct_129 : decode cX12_bigProduct 129 = .ok (.iadd, 1) := by decide +kernel
theorem dX12_bigProduct_130 : decode cX12_bigProduct 130 = .ok (.iaload, 1) := by decide +kernel
theorem dX12_bigProduct_131 : decode cX12_bigProduct 131 = .ok (.i2l, 1) := by decide +kernel
theorem dX12_bigProduct_132 : decode cX12_bigProduct 132 = .ok (.lmul, 1) := by decide +kernel
theorem dX12_bigProduct_133 : decode cX12_bigProduct 133 = .ok (.ladd, 1) := by decide +kernel
theorem dX12_bigProduct_134 : decode cX12_bigProduct 134 = .ok (.lstore 5, 2) := by decide +kernel
theorem dX12_bigProduct_136 : decode cX12_bigProduct 136 = .ok (.aload_n 0, 1) := by decide +kernel
theorem dX12_bigProduct_137 : decode cX12_bigProduct 137 = .ok (.getfield 8, 3) := by decide +kernel
theorem dX12_bigProduct_140 : decode cX12_bigProduct 140 = .ok (.iload 8, 2) := by decide +kernel
theorem dX12_bigProduct_142 : decode cX12_bigProduct 142 = .ok (.lload 5, 2) := by decide +kernel
theorem dX12_bigProduct_144 : decode cX12_bigProduct 144 = .ok (.ldc2_w 44, 3) := by decide +kernel
theorem dX12_bigProduct_147 : decode cX12_bigProduct 147 = .ok (.lrem, 1) := by decide +kernel
theorem dX12_bigProduct_148 : decode cX12_bigProduct 148 = .ok (.l2i, 1) := by decide +kernel
theorem dX12_bigProduct_149 : decode cX12_bigProduct 149 = .ok (.iastore, 1) := by decide +kernel
theorem dX12_bigProduct_150 : decode cX12_bigProduct 150 = .ok (.lload 5, 2) := by decide +kernel
theorem dX12_bigProduct_152 : decode cX12_bigProduct 152 = .ok (.ldc2_w 44, 3) := by decide +kernel
theorem dX12_bigProduct_155 : decode cX12_bigProduct 155 = .ok (.ldiv, 1) := by decide +kernel
theorem dX12_bigProduct_156 : decode cX12_bigProduct 156 = .ok (.lstore 5, 2) := by decide +kernel
theorem dX12_bigProduct_158 : decode cX12_bigProduct 158 = .ok (.iinc 7 1, 3) := by decide +kernel
theorem dX12_bigProduct_161 : decode cX12_bigProduct 161 = .ok (.goto (-89), 3) := by decide +kernel
theorem dX12_bigProduct_164 : decode cX12_bigProduct 164 = .ok (.aload_n 0, 1) := by decide +kernel
theorem dX12_bigProduct_165 : decode cX12_bigProduct 165 = .ok (.getfield 8, 3) := by decide +kernel
theorem dX12_bigProduct_168 : decode cX12_bigProduct 168 = .ok (.iload_n 1, 1) := by decide +kernel
theorem dX12_bigProduct_169 : decode cX12_bigProduct 169 = .ok (.invokestatic 12, 3) := by decide +kernel
theorem dX12_bigProduct_172 : decode cX12_bigProduct 172 = .ok (.iload 4, 2) := by decide +kernel
theorem dX12_bigProduct_174 : decode cX12_bigProduct 174 = .ok (.iadd, 1) := by decide +kernel
theorem dX12_bigProduct_175 : decode cX12_bigProduct 175 = .ok (.aload_n 0, 1) := by decide +kernel
theorem dX12_bigProduct_176 : decode cX12_bigProduct 176 = .ok (.getfield 18, 3) := by decide +kernel
theorem dX12_bigProduct_179 : decode cX12_bigProduct 179 = .ok (.iload_n 3, 1) := by decide +kernel
theorem dX12_bigProduct_180 : decode cX12_bigProduct 180 = .ok (.iaload, 1) := by decide +kernel
theorem dX12_bigProduct_181 : decode cX12_bigProduct 181 = .ok (.iadd, 1) := by decide +kernel
theorem dX12_bigProduct_182 : decode cX12_bigProduct 182 = .ok (.lload 5, 2) := by decide +kernel
theorem dX12_bigProduct_184 : decode cX12_bigProduct 184 = .ok (.l2i, 1) := by decide +kernel
theorem dX12_bigProduct_185 : decode cX12_bigProduct 185 = .ok (.iastore, 1) := by decide +kernel
theorem dX12_bigProduct_186 : decode cX12_bigProduct 186 = .ok (.iinc 4 1, 3) := by decide +kernel
theorem dX12_bigProduct_189 : decode cX12_bigProduct 189 = .ok (.goto (-134), 3) := by decide +kernel
theorem dX12_bigProduct_192 : decode cX12_bigProduct 192 = .ok (.aload_n 0, 1) := by decide +kernel
theorem dX12_bigProduct_193 : decode cX12_bigProduct 193 = .ok (.getfield 4, 3) := by decide +kernel
theorem dX12_bigProduct_196 : decode cX12_bigProduct 196 = .ok (.iload_n 1, 1) := by decide +kernel
theorem dX12_bigProduct_197 : decode cX12_bigProduct 197 = .ok (.aload_n 0, 1) := by decide +kernel
theorem dX12_bigProduct_198 : decode cX12_bigProduct 198 = .ok (.getfield 4, 3) := by decide +kernel
theorem dX12_bigProduct_201 : decode cX12_bigProduct 201 = .ok (.iload_n 2, 1) := by decide +kernel
theorem dX12_bigProduct_202 : decode cX12_bigProduct 202 = .ok (.baload, 1) := by decide +kernel
theorem dX12_bigProduct_203 : decode cX12_bigProduct 203 = .ok (.aload_n 0, 1) := by decide +kernel
theorem dX12_bigProduct_204 : decode cX12_bigProduct 204 = .ok (.getfield 4, 3) := by decide +kernel
theorem dX12_bigProduct_207 : decode cX12_bigProduct 207 = .ok (.iload_n 3, 1) := by decide +kernel
theorem dX12_bigProduct_208 : decode cX12_bigProduct 208 = .ok (.baload, 1) := by decide +kernel
theorem dX12_bigProduct_209 : decode cX12_bigProduct 209 = .ok (.if_icmp .eq 7, 3) := by decide +kernel
theorem dX12_bigProduct_212 : decode cX12_bigProduct 212 = .ok (.iconst 1, 1) := by decide +kernel
theorem dX12_bigProduct_213 : decode cX12_bigProduct 213 = .ok (.goto 4, 3) := by decide +kernel
theorem dX12_bigProduct_216 : decode cX12_bigProduct 216 = .ok (.iconst 0, 1) := by decide +kernel
theorem dX12_bigProduct_217 : decode cX12_bigProduct 217 = .ok (.bastore, 1) := by decide +kernel
theorem dX12_bigProduct_218 : decode cX12_bigProduct 218 = .ok (.aload_n 0, 1) := by decide +kernel
theorem dX12_bigProduct_219 : decode cX12_bigProduct 219 = .ok (.iload_n 1, 1) := by decide +kernel
theorem dX12_bigProduct_220 : decode cX12_bigProduct 220 = .ok (.invokevirtual 32, 3) := by decide +kernel
theorem dX12_bigProduct_223 : decode cX12_bigProduct 223 = .ok (.return_, 1) := by decide +kernel
set_option maxRecDepth 20000 in
theorem ggX12_bigLose_X12_from : GoodIn wsX12_bigLose wsX12_from := goodIn_r _ [7, 8] rfl (by decide +kernel)
set_option maxRecDepth 20000 in
theorem gX12_bigLose_X12_from : GoodIn wsX12_bigLose (va_wsS RX12 12 yX12_from wsX12_from) := goodIn_app (goodIn_r _ [4, 5, 6] rfl (by decide +kernel)) ggX12_bigLose_X12_from
set_option maxRecDepth 20000 in
theorem ggX12_bigLose_X12_bigTrim : GoodIn wsX12_bigLose wsX12_bigTrim := goodIn_s _ [(12, 1), (1, 2), (4, 5), (13, 58)] rfl (by decide +kernel)
set_option maxRecDepth 20000 in
theorem gX12_bigLose_X12_bigTrim : GoodIn wsX12_bigLose (wsV RX12 32 RX12 yX12_bigTrim wsX12_bigTrim) := goodIn_app (goodIn_r _ [9, 10, 11, 6] rfl (by decide +kernel)) ggX12_bigLose_X12_bigTrim
theorem dX12_bigLose_0 : decode cX12_bigLose 0 = .ok (.lconst 0, 1) := by decide +kernel
theorem dX12_bigLose_1 : decode cX12_bigLose 1 = .ok (.lstore 6, 2) := by decide +kernel
theorem dX12_bigLose_3 : decode cX12_bigLose 3 = .ok (.iload 5, 2) := by decide +kernel
theorem dX12_bigLose_5 : decode cX12_bigLose 5 = .ok (.istore 8, 2) := by decide +kernel
theorem dX12_bigLose_7 : decode cX12_bigLose 7 = .ok (.iload 8, 2) := by decide +kernel
theorem dX12_bigLose_9 : decode cX12_bigLose 9 = .ok (.aload_n 0, 1) := by decide +kernel
theorem dX12_bigLose_10 : decode cX12_bigLose 10 = .ok (.getfield 18, 3) := by decide +kernel
theorem dX12_bigLose_13 : decode cX12_bigLose 13 = .ok (.iload_n 1, 1) := by decide +kernel
theorem dX12_bigLose_14 : decode cX12_bigLose 14 = .ok (.iaload, 1) := by decide +kernel
theorem dX12_bigLose_15 : decode cX12_bigLose 15 = .ok (.if_icmp .ge 97, 3) := by decide +kernel
theorem dX12_bigLose_18 : decode cX12_bigLose 18 = .ok (.aload_n 0, 1) := by decide +kernel
theorem dX12_bigLose_19 : decode cX12_bigLose 19 = .ok (.getfield 8, 3) := by decide +kernel
theorem dX12_bigLose_22 : decode cX12_bigLose 22 = .ok (.iload_n 1, 1) := by decide +kernel
theorem dX12_bigLose_23 : decode cX12_bigLose 23 = .ok (.invokestatic 12, 3) := by decide +kernel
theorem dX12_bigLose_26 : decode cX12_bigLose 26 = .ok (.iload 8, 2) := by decide +kernel
theorem dX12_bigLose_28 : decode cX12_bigLose 28 = .ok (.iadd, 1) := by decide +kernel
theorem dX12_bigLose_29 : decode cX12_bigLose 29 = .ok (.iaload, 1) := by decide +kernel
theorem dX12_bigLose_30 : decode cX12_bigLose 30 = .ok (.i2l, 1) := by decide +kernel
theorem dX12_bigLose_31 : decode cX12_bigLose 31 = .ok (.lload 6, 2) := by decide +kernel
theorem dX12_bigLose_33 : decode cX12_bigLose 33 = .ok (.lsub, 1) := by decide +kernel
theorem dX12_bigLose_34 : decode cX12_bigLose 34 = .ok (.iload 8, 2) := by decide +kernel
theorem dX12_bigLose_36 : decode cX12_bigLose 36 = .ok (.iload 5, 2) := by decide +kernel
theorem dX12_bigLose_38 : decode cX12_bigLose 38 = .ok (.isub, 1) := by decide +kernel
theorem dX12_bigLose_39 : decode cX12_bigLose 39 = .ok (.aload_n 0, 1) := by decide +kernel
theorem dX12_bigLose_40 : decode cX12_bigLose 40 = .ok (.getfield 18, 3) := by decide +kernel
theorem dX12_bigLose_43 : decode cX12_bigLose 43 = .ok (.iload_n 2, 1) := by decide +kernel
theorem dX12_bigLose_44 : decode cX12_bigLose 44 = .ok (.iaload, 1) := by decide +kernel
theorem dX12_bigLose_45 : decode cX12_bigLose 45 = .ok (.if_icmp .ge 24, 3) := by decide +kernel
theorem dX12_bigLose_48 : decode cX12_bigLose 48 = .ok (.lload_n 3, 1) := by decide +kernel
theorem dX12_bigLose_49 : decode cX12_bigLose 49 = .ok (.aload_n 0, 1) := by decide +kernel
theorem dX12_bigLose_50 : decode cX12_bigLose 50 = .ok (.getfield 8, 3) := by decide +kernel
theorem dX12_bigLose_53 : decode cX12_bigLose 53 = .ok (.iload_n 2, 1) := by decide +kernel
theorem dX12_bigLose_54 : decode cX12_bigLose 54 = .ok (.invokestatic 12, 3) := by decide +kernel
theorem dX12_bigLose_57 : decode cX12_bigLose 57 = .ok (.iload 8, 2) := by decide +kernel
theorem dX12_bigLose_59 : decode cX12_bigLose 59 = .ok (.iadd, 1) := by decide +kernel
theorem dX12_bigLose_60 : decode cX12_bigLose 60 = .ok (.iload 5, 2) := by decide +kernel
theorem dX12_bigLose_62 : decode cX12_bigLose 62 = .ok (.isub, 1) := by decide +kernel
theorem dX12_bigLose_63 : decode cX12_bigLose 63 = .ok (.iaload, 1) := by decide +kernel
theorem dX12_bigLose_64 : decode cX12_bigLose 64 = .ok (.i2l, 1) := by decide +kernel
theorem dX12_bigLose_65 : decode cX12_bigLose 65 = .ok (.lmul, 1) := by decide +kernel
theorem dX12_bigLose_66 : decode cX12_bigLose 66 = .ok (.goto 4, 3) := by decide +kernel
theorem dX12_bigLose_69 : decode cX12_bigLose 69 = .ok (.lconst 0, 1) := by decide +kernel
theorem dX12_bigLose_70 : decode cX12_bigLose 70 = .ok (.lsub, 1) := by decide +kernel
theorem dX12_bigLose_71 : decode cX12_bigLose 71 = .ok (.lstore 9, 2) := by decide +kernel
theorem dX12_bigLose_73 : decode cX12_bigLose 73 = .ok (.lload 9, 2) := by decide +kernel
theorem dX12_bigLose_75 : decode cX12_bigLose 75 = .ok (.ldc2_w 16, 3) := by decide +kernel
theorem dX12_bigLose_78 : decode cX12_bigLose 78 = .ok (.land, 1) := by decide +kernel
theorem dX12_bigLose_79 : decode cX12_bigLose 79 = .ok (.lstore 11, 2) := by decide +kernel
theorem dX12_bigLose_81 : decode cX12_bigLose 81 = .ok (.lload 11, 2) := by decide +kernel
theorem dX12_bigLose_83 : decode cX12_bigLose 83 = .ok (.lload 9, 2) := by decide +kernel
theorem dX12_bigLose_85 : decode cX12_bigLose 85 = .ok (.lsub, 1) := by decide +kernel
theorem dX12_bigLose_86 : decode cX12_bigLose 86 = .ok (.bipush 24, 2) := by decide +kernel
theorem dX12_bigLose_88 : decode cX12_bigLose 88 = .ok (.lshr, 1) := by decide +kernel
theorem dX12_bigLose_89 : decode cX12_bigLose 89 = .ok (.lstore 6, 2) := by decide +kernel
theorem dX12_bigLose_91 : decode cX12_bigLose 91 = .ok (.aload_n 0, 1) := by decide +kernel
theorem dX12_bigLose_92 : decode cX12_bigLose 92 = .ok (.getfield 8, 3) := by decide +kernel
theorem dX12_bigLose_95 : decode cX12_bigLose 95 = .ok (.iload_n 1, 1) := by decide +kernel
theorem dX12_bigLose_96 : decode cX12_bigLose 96 = .ok (.invokestatic 12, 3) := by decide +kernel
theorem dX12_bigLose_99 : decode cX12_bigLose 99 = .ok (.iload 8, 2) := by decide +kernel
theorem dX12_bigLose_101 : decode cX12_bigLose 101 = .ok (.iadd, 1) := by decide +kernel
theorem dX12_bigLose_102 : decode cX12_bigLose 102 = .ok (.lload 11, 2) := by decide +kernel
theorem dX12_bigLose_104 : decode cX12_bigLose 104 = .ok (.l2i, 1) := by decide +kernel
theorem dX12_bigLose_105 : decode cX12_bigLose 105 = .ok (.iastore, 1) := by decide +kernel
theorem dX12_bigLose_106 : decode cX12_bigLose 106 = .ok (.iinc 8 1, 3) := by decide +kernel
theorem dX12_bigLose_109 : decode cX12_bigLose 109 = .ok (.goto (-102), 3) := by decide +kernel
theorem dX12_bigLose_112 : decode cX12_bigLose 112 = .ok (.aload_n 0, 1) := by decide +kernel
theorem dX12_bigLose_113 : decode cX12_bigLose 113 = .ok (.iload_n 1, 1) := by decide +kernel
theorem dX12_bigLose_114 : decode cX12_bigLose 114 = .ok (.invokevirtual 32, 3) := by decide +kernel
theorem dX12_bigLose_117 : decode cX12_bigLose 117 = .ok (.return_, 1) := by decide +kernel
set_option maxRecDepth 20000 in
theorem ggX12_bigHolds_X12_bigAt : GoodIn wsX12_bigHolds wsX12_bigAt := goodIn_s _ [(6, 1), (1, 1), (7, 3), (5, 1), (10, 60)] rfl (by decide +kernel)
set_option maxRecDepth 20000 in
theorem gX12_bigHolds_X12_bigAt : GoodIn wsX12_bigHolds (wsV RX12 21 RX12 yX12_bigAt wsX12_bigAt) := goodIn_app (goodIn_r _ [2, 3, 4, 5] rfl (by decide +kernel)) ggX12_bigHolds_X12_bigAt
theorem dX12_bigHolds_0 : decode cX12_bigHolds 0 = .ok (.aload_n 0, 1) := by decide +kernel
theorem dX12_bigHolds_1 : decode cX12_bigHolds 1 = .ok (.getfield 18, 3) := by decide +kernel
theorem dX12_bigHolds_4 : decode cX12_bigHolds 4 = .ok (.iload_n 1, 1) := by decide +kernel
theorem dX12_bigHolds_5 : decode cX12_bigHolds 5 = .ok (.iaload, 1) := by decide +kernel
theorem dX12_bigHolds_6 : decode cX12_bigHolds 6 = .ok (.aload_n 0, 1) := by decide +kernel
theorem dX12_bigHolds_7 : decode cX12_bigHolds 7 = .ok (.getfield 18, 3) := by decide +kernel
theorem dX12_bigHolds_10 : decode cX12_bigHolds 10 = .ok (.iload_n 2, 1) := by decide +kernel
theorem dX12_bigHolds_11 : decode cX12_bigHolds 11 = .ok (.iaload, 1) := by decide +kernel
theorem dX12_bigHolds_12 : decode cX12_bigHolds 12 = .ok (.iload_n 3, 1) := by decide +kernel
theorem dX12_bigHolds_13 : decode cX12_bigHolds 13 = .ok (.iadd, 1) := by decide +kernel
theorem dX12_bigHolds_14 : decode cX12_bigHolds 14 = .ok (.if_icmp .eq 26, 3) := by decide +kernel
theorem dX12_bigHolds_17 : decode cX12_bigHolds 17 = .ok (.aload_n 0, 1) := by decide +kernel
theorem dX12_bigHolds_18 : decode cX12_bigHolds 18 = .ok (.getfield 18, 3) := by decide +kernel
theorem dX12_bigHolds_21 : decode cX12_bigHolds 21 = .ok (.iload_n 1, 1) := by decide +kernel
theorem dX12_bigHolds_22 : decode cX12_bigHolds 22 = .ok (.iaload, 1) := by decide +kernel
theorem dX12_bigHolds_23 : decode cX12_bigHolds 23 = .ok (.aload_n 0, 1) := by decide +kernel
theorem dX12_bigHolds_24 : decode cX12_bigHolds 24 = .ok (.getfield 18, 3) := by decide +kernel
theorem dX12_bigHolds_27 : decode cX12_bigHolds 27 = .ok (.iload_n 2, 1) := by decide +kernel
theorem dX12_bigHolds_28 : decode cX12_bigHolds 28 = .ok (.iaload, 1) := by decide +kernel
theorem dX12_bigHolds_29 : decode cX12_bigHolds 29 = .ok (.iload_n 3, 1) := by decide +kernel
theorem dX12_bigHolds_30 : decode cX12_bigHolds 30 = .ok (.iadd, 1) := by decide +kernel
theorem dX12_bigHolds_31 : decode cX12_bigHolds 31 = .ok (.if_icmp .le 7, 3) := by decide +kernel
theorem dX12_bigHolds_34 : decode cX12_bigHolds 34 = .ok (.iconst 1, 1) := by decide +kernel
theorem dX12_bigHolds_35 : decode cX12_bigHolds 35 = .ok (.goto 4, 3) := by decide +kernel
theorem dX12_bigHolds_38 : decode cX12_bigHolds 38 = .ok (.iconst 0, 1) := by decide +kernel
theorem dX12_bigHolds_39 : decode cX12_bigHolds 39 = .ok (.ireturn, 1) := by decide +kernel
theorem dX12_bigHolds_40 : decode cX12_bigHolds 40 = .ok (.aload_n 0, 1) := by decide +kernel
theorem dX12_bigHolds_41 : decode cX12_bigHolds 41 = .ok (.getfield 18, 3) := by decide +kernel
theorem dX12_bigHolds_44 : decode cX12_bigHolds 44 = .ok (.iload_n 1, 1) := by decide +kernel
theorem dX12_bigHolds_45 : decode cX12_bigHolds 45 = .ok (.iaload, 1) := by decide +kernel
theorem dX12_bigHolds_46 : decode cX12_bigHolds 46 = .ok (.iconst 1, 1) := by decide +kernel
theorem dX12_bigHolds_47 : decode cX12_bigHolds 47 = .ok (.isub, 1) := by decide +kernel
theorem dX12_bigHolds_48 : decode cX12_bigHolds 48 = .ok (.istore 4, 2) := by decide +kernel
theorem dX12_bigHolds_50 : decode cX12_bigHolds 50 = .ok (.iload 4, 2) := by decide +kernel
theorem dX12_bigHolds_52 : decode cX12_bigHolds 52 = .ok (.iload_n 3, 1) := by decide +kernel
theorem dX12_bigHolds_53 : decode cX12_bigHolds 53 = .ok (.if_icmp .lt 28, 3) := by decide +kernel
theorem dX12_bigHolds_56 : decode cX12_bigHolds 56 = .ok (.aload_n 0, 1) := by decide +kernel
theorem dX12_bigHolds_57 : decode cX12_bigHolds 57 = .ok (.iload_n 1, 1) := by decide +kernel
theorem dX12_bigHolds_58 : decode cX12_bigHolds 58 = .ok (.iload 4, 2) := by decide +kernel
theorem dX12_bigHolds_60 : decode cX12_bigHolds 60 = .ok (.invokevirtual 21, 3) := by decide +kernel
theorem dX12_bigHolds_63 : decode cX12_bigHolds 63 = .ok (.aload_n 0, 1) := by decide +kernel
theorem dX12_bigHolds_64 : decode cX12_bigHolds 64 = .ok (.iload_n 2, 1) := by decide +kernel
theorem dX12_bigHolds_65 : decode cX12_bigHolds 65 = .ok (.iload 4, 2) := by decide +kernel
theorem dX12_bigHolds_67 : decode cX12_bigHolds 67 = .ok (.iload_n 3, 1) := by decide +kernel
theorem dX12_bigHolds_68 : decode cX12_bigHolds 68 = .ok (.isub, 1) := by decide +kernel
theorem dX12_bigHolds_69 : decode cX12_bigHolds 69 = .ok (.invokevirtual 21, 3) := by decide +kernel
theorem dX12_bigHolds_72 : decode cX12_bigHolds 72 = .ok (.if_icmp .ne 9, 3) := by decide +kernel
theorem dX12_bigHolds_75 : decode cX12_bigHolds 75 = .ok (.iinc 4 (-1), 3) := by decide +kernel
theorem dX12_bigHolds_78 : decode cX12_bigHolds 78 = .ok (.goto (-28), 3) := by decide +kernel
theorem dX12_bigHolds_81 : decode cX12_bigHolds 81 = .ok (.iload 4, 2) := by decide +kernel
theorem dX12_bigHolds_83 : decode cX12_bigHolds 83 = .ok (.iload_n 3, 1) := by decide +kernel
theorem dX12_bigHolds_84 : decode cX12_bigHolds 84 = .ok (.if_icmp .lt 22, 3) := by decide +kernel
theorem dX12_bigHolds_87 : decode cX12_bigHolds 87 = .ok (.aload_n 0, 1) := by decide +kernel
theorem dX12_bigHolds_88 : decode cX12_bigHolds 88 = .ok (.iload_n 1, 1) := by decide +kernel
theorem dX12_bigHolds_89 : decode cX12_bigHolds 89 = .ok (.iload 4, 2) := by decide +kernel
theorem dX12_bigHolds_91 : decode cX12_bigHolds 91 = .ok (.invokevirtual 21, 3) := by decide +kernel
theorem dX12_bigHolds_94 : decode cX12_bigHolds 94 = .ok (.aload_n 0, 1) := by decide +kernel
theorem dX12_bigHolds_95 : decode cX12_bigHolds 95 = .ok (.iload_n 2, 1) := by decide +kernel
theorem dX12_bigHolds_96 : decode cX12_bigHolds 96 = .ok (.iload 4, 2) := by decide +kernel
theorem dX12_bigHolds_98 : decode cX12_bigHolds 98 = .ok (.iload_n 3, 1) := by decide +kernel
theorem dX12_bigHolds_99 : decode cX12_bigHolds 99 = .ok (.isub, 1) := by decide +kernel
theorem dX12_bigHolds_100 : decode cX12_bigHolds 100 = .ok (.invokevirtual 21, 3) := by decide +kernel
theorem dX12_bigHolds_103 : decode cX12_bigHolds 103 = .ok (.if_icmp .le 7, 3) := by decide +kernel
theorem dX12_bigHolds_106 : decode cX12_bigHolds 106 = .ok (.iconst 1, 1) := by decide +kernel
theorem dX12_bigHolds_107 : decode cX12_bigHolds 107 = .ok (.goto 4, 3) := by decide +kernel
theorem dX12_bigHolds_110 : decode cX12_bigHolds 110 = .ok (.iconst 0, 1) := by decide +kernel
theorem dX12_bigHolds_111 : decode cX12_bigHolds 111 = .ok (.ireturn, 1) := by decide +kernel
set_option maxRecDepth 20000 in
theorem ggX12_bigDivide_X12_bigAt : GoodIn wsX12_bigDivide wsX12_bigAt := goodIn_s _ [(9, 1), (2, 1), (4, 1), (10, 2), (8, 1), (12, 2), (27, 58)] rfl (by decide +kernel)
set_option maxRecDepth 20000 in
theorem gX12_bigDivide_X12_bigAt : GoodIn wsX12_bigDivide (wsV RX12 21 RX12 yX12_bigAt wsX12_bigAt) := goodIn_app (goodIn_r _ [5, 6, 7, 8] rfl (by decide +kernel)) ggX12_bigDivide_X12_bigAt
set_option maxRecDepth 20000 in
theorem ggX12_bigDivide_X12_bigHolds : GoodIn wsX12_bigDivide wsX12_bigHolds := goodIn_s _ [(17, 1), (2, 1), (5, 5), (4, 1), (10, 4), (27, 58)] rfl (by decide +kernel)
set_option maxRecDepth 20000 in
theorem gX12_bigDivide_X12_bigHolds : GoodIn wsX12_bigDivide (wsV RX12 46 RX12 yX12_bigHolds wsX12_bigHolds) := goodIn_app (goodIn_r _ [14, 15, 16, 8] rfl (by decide +kernel)) ggX12_bigDivide_X12_bigHolds
set_option maxRecDepth 20000 in
theorem ggX12_bigDivide_X12_bigLose : GoodIn wsX12_bigDivide wsX12_bigLose := goodIn_s _ [(21, 1), (2, 1), (4, 1), (22, 1), (10, 2), (8, 1), (12, 2), (23, 62)] rfl (by decide +kernel)
set_option maxRecDepth 20000 in
theorem gX12_bigDivide_X12_bigLose : GoodIn wsX12_bigDivide (wsV RX12 50 RX12 yX12_bigLose wsX12_bigLose) := goodIn_app (goodIn_r _ [18, 19, 20, 8] rfl (by decide +kernel)) ggX12_bigDivide_X12_bigLose
set_option maxRecDepth 20000 in
theorem ggX12_bigDivide_X12_from : GoodIn wsX12_bigDivide wsX12_from := goodIn_r _ [12, 13] rfl (by decide +kernel)
set_option maxRecDepth 20000 in
theorem gX12_bigDivide_X12_from : GoodIn wsX12_bigDivide (va_wsS RX12 12 yX12_from wsX12_from) := goodIn_app (goodIn_r _ [10, 11, 8] rfl (by decide +kernel)) ggX12_bigDivide_X12_from
set_option maxRecDepth 20000 in
theorem ggX12_bigDivide_X12_bigTrim : GoodIn wsX12_bigDivide wsX12_bigTrim := goodIn_s _ [(26, 1), (2, 1), (4, 1), (10, 2), (8, 1), (12, 2), (27, 58)] rfl (by decide +kernel)
set_option maxRecDepth 20000 in
theorem gX12_bigDivide_X12_bigTrim : GoodIn wsX12_bigDivide (wsV RX12 32 RX12 yX12_bigTrim wsX12_bigTrim) := goodIn_app (goodIn_r _ [23, 24, 25, 8] rfl (by decide +kernel)) ggX12_bigDivide_X12_bigTrim
theorem dX12_bigDivide_0 : decode cX12_bigDivide 0 = .ok (.aload_n 0, 1) := by decide +kernel
theorem dX12_bigDivide_1 : decode cX12_bigDivide 1 = .ok (.getfield 4, 3) := by decide +kernel
theorem dX12_bigDivide_4 : decode cX12_bigDivide 4 = .ok (.iload_n 1, 1) := by decide +kernel
theorem dX12_bigDivide_5 : decode cX12_bigDivide 5 = .ok (.iconst 0, 1) := by decide +kernel
theorem dX12_bigDivide_6 : decode cX12_bigDivide 6 = .ok (.bastore, 1) := by decide +kernel
theorem dX12_bigDivide_7 : decode cX12_bigDivide 7 = .ok (.aload_n 0, 1) := by decide +kernel
theorem dX12_bigDivide_8 : decode cX12_bigDivide 8 = .ok (.getfield 4, 3) := by decide +kernel
theorem dX12_bigDivide_11 : decode cX12_bigDivide 11 = .ok (.iload_n 3, 1) := by decide +kernel
theorem dX12_bigDivide_12 : decode cX12_bigDivide 12 = .ok (.iconst 0, 1) := by decide +kernel
theorem dX12_bigDivide_13 : decode cX12_bigDivide 13 = .ok (.bastore, 1) := by decide +kernel
theorem dX12_bigDivide_14 : decode cX12_bigDivide 14 = .ok (.aload_n 0, 1) := by decide +kernel
theorem dX12_bigDivide_15 : decode cX12_bigDivide 15 = .ok (.getfield 18, 3) := by decide +kernel
theorem dX12_bigDivide_18 : decode cX12_bigDivide 18 = .ok (.iload_n 1, 1) := by decide +kernel
theorem dX12_bigDivide_19 : decode cX12_bigDivide 19 = .ok (.iaload, 1) := by decide +kernel
theorem dX12_bigDivide_20 : decode cX12_bigDivide 20 = .ok (.aload_n 0, 1) := by decide +kernel
theorem dX12_bigDivide_21 : decode cX12_bigDivide 21 = .ok (.getfield 18, 3) := by decide +kernel
theorem dX12_bigDivide_24 : decode cX12_bigDivide 24 = .ok (.iload_n 2, 1) := by decide +kernel
theorem dX12_bigDivide_25 : decode cX12_bigDivide 25 = .ok (.iaload, 1) := by decide +kernel
theorem dX12_bigDivide_26 : decode cX12_bigDivide 26 = .ok (.isub, 1) := by decide +kernel
theorem dX12_bigDivide_27 : decode cX12_bigDivide 27 = .ok (.istore 4, 2) := by decide +kernel
theorem dX12_bigDivide_29 : decode cX12_bigDivide 29 = .ok (.aload_n 0, 1) := by decide +kernel
theorem dX12_bigDivide_30 : decode cX12_bigDivide 30 = .ok (.getfield 18, 3) := by decide +kernel
theorem dX12_bigDivide_33 : decode cX12_bigDivide 33 = .ok (.iload_n 3, 1) := by decide +kernel
theorem dX12_bigDivide_34 : decode cX12_bigDivide 34 = .ok (.iload 4, 2) := by decide +kernel
theorem dX12_bigDivide_36 : decode cX12_bigDivide 36 = .ok (.ifCond .ge 7, 3) := by decide +kernel
theorem dX12_bigDivide_39 : decode cX12_bigDivide 39 = .ok (.iconst 0, 1) := by decide +kernel
theorem dX12_bigDivide_40 : decode cX12_bigDivide 40 = .ok (.goto 7, 3) := by decide +kernel
theorem dX12_bigDivide_43 : decode cX12_bigDivide 43 = .ok (.iload 4, 2) := by decide +kernel
theorem dX12_bigDivide_45 : decode cX12_bigDivide 45 = .ok (.iconst 1, 1) := by decide +kernel
theorem dX12_bigDivide_46 : decode cX12_bigDivide 46 = .ok (.iadd, 1) := by decide +kernel
theorem dX12_bigDivide_47 : decode cX12_bigDivide 47 = .ok (.iastore, 1) := by decide +kernel
theorem dX12_bigDivide_48 : decode cX12_bigDivide 48 = .ok (.aload_n 0, 1) := by decide +kernel
theorem dX12_bigDivide_49 : decode cX12_bigDivide 49 = .ok (.iload_n 2, 1) := by decide +kernel
theorem dX12_bigDivide_50 : decode cX12_bigDivide 50 = .ok (.aload_n 0, 1) := by decide +kernel
theorem dX12_bigDivide_51 : decode cX12_bigDivide 51 = .ok (.getfield 18, 3) := by decide +kernel
theorem dX12_bigDivide_54 : decode cX12_bigDivide 54 = .ok (.iload_n 2, 1) := by decide +kernel
theorem dX12_bigDivide_55 : decode cX12_bigDivide 55 = .ok (.iaload, 1) := by decide +kernel
theorem dX12_bigDivide_56 : decode cX12_bigDivide 56 = .ok (.iconst 1, 1) := by decide +kernel
theorem dX12_bigDivide_57 : decode cX12_bigDivide 57 = .ok (.isub, 1) := by decide +kernel
theorem dX12_bigDivide_58 : decode cX12_bigDivide 58 = .ok (.invokevirtual 21, 3) := by decide +kernel
theorem dX12_bigDivide_61 : decode cX12_bigDivide 61 = .ok (.i2l, 1) := by decide +kernel
theorem dX12_bigDivide_62 : decode cX12_bigDivide 62 = .ok (.lconst 1, 1) := by decide +kernel
theorem dX12_bigDivide_63 : decode cX12_bigDivide 63 = .ok (.ladd, 1) := by decide +kernel
theorem dX12_bigDivide_64 : decode cX12_bigDivide 64 = .ok (.lstore 5, 2) := by decide +kernel
theorem dX12_bigDivide_66 : decode cX12_bigDivide 66 = .ok (.iload 4, 2) := by decide +kernel
theorem dX12_bigDivide_68 : decode cX12_bigDivide 68 = .ok (.istore 7, 2) := by decide +kernel
theorem dX12_bigDivide_70 : decode cX12_bigDivide 70 = .ok (.iload 7, 2) := by decide +kernel
theorem dX12_bigDivide_72 : decode cX12_bigDivide 72 = .ok (.ifCond .lt 119, 3) := by decide +kernel
theorem dX12_bigDivide_75 : decode cX12_bigDivide 75 = .ok (.lconst 0, 1) := by decide +kernel
theorem dX12_bigDivide_76 : decode cX12_bigDivide 76 = .ok (.lstore 8, 2) := by decide +kernel
theorem dX12_bigDivide_78 : decode cX12_bigDivide 78 = .ok (.aload_n 0, 1) := by decide +kernel
theorem dX12_bigDivide_79 : decode cX12_bigDivide 79 = .ok (.iload_n 1, 1) := by decide +kernel
theorem dX12_bigDivide_80 : decode cX12_bigDivide 80 = .ok (.iload_n 2, 1) := by decide +kernel
theorem dX12_bigDivide_81 : decode cX12_bigDivide 81 = .ok (.iload 7, 2) := by decide +kernel
theorem dX12_bigDivide_83 : decode cX12_bigDivide 83 = .ok (.invokevirtual 46, 3) := by decide +kernel
theorem dX12_bigDivide_86 : decode cX12_bigDivide 86 = .ok (.ifCond .eq 84, 3) := by decide +kernel
theorem dX12_bigDivide_89 : decode cX12_bigDivide 89 = .ok (.aload_n 0, 1) := by decide +kernel
theorem dX12_bigDivide_90 : decode cX12_bigDivide 90 = .ok (.iload_n 1, 1) := by decide +kernel
theorem dX12_bigDivide_91 : decode cX12_bigDivide 91 = .ok (.iload 7, 2) := by decide +kernel
theorem dX12_bigDivide_93 : decode cX12_bigDivide 93 = .ok (.aload_n 0, 1) := by decide +kernel
theorem dX12_bigDivide_94 : decode cX12_bigDivide 94 = .ok (.getfield 18, 3) := by decide +kernel
theorem dX12_bigDivide_97 : decode cX12_bigDivide 97 = .ok (.iload_n 2, 1) := by decide +kernel
theorem dX12_bigDivide_98 : decode cX12_bigDivide 98 = .ok (.iaload, 1) := by decide +kernel
theorem dX12_bigDivide_99 : decode cX12_bigDivide 99 = .ok (.iadd, 1) := by decide +kernel
theorem dX12_bigDivide_100 : decode cX12_bigDivide 100 = .ok (.invokevirtual 21, 3) := by decide +kernel
theorem dX12_bigDivide_103 : decode cX12_bigDivide 103 = .ok (.i2l, 1) := by decide +kernel
theorem dX12_bigDivide_104 : decode cX12_bigDivide 104 = .ok (.ldc2_w 44, 3) := by decide +kernel
theorem dX12_bigDivide_107 : decode cX12_bigDivide 107 = .ok (.lmul, 1) := by decide +kernel
theorem dX12_bigDivide_108 : decode cX12_bigDivide 108 = .ok (.aload_n 0, 1) := by decide +kernel
theorem dX12_bigDivide_109 : decode cX12_bigDivide 109 = .ok (.iload_n 1, 1) := by decide +kernel
theorem dX12_bigDivide_110 : decode cX12_bigDivide 110 = .ok (.iload 7, 2) := by decide +kernel
theorem dX12_bigDivide_112 : decode cX12_bigDivide 112 = .ok (.aload_n 0, 1) := by decide +kernel
theorem dX12_bigDivide_113 : decode cX12_bigDivide 113 = .ok (.getfield 18, 3) := by decide +kernel
theorem dX12_bigDivide_116 : decode cX12_bigDivide 116 = .ok (.iload_n 2, 1) := by decide +kernel
theorem dX12_bigDivide_117 : decode cX12_bigDivide 117 = .ok (.iaload, 1) := by decide +kernel
theorem dX12_bigDivide_118 : decode cX12_bigDivide 118 = .ok (.iadd, 1) := by decide +kernel
theorem dX12_bigDivide_119 : decode cX12_bigDivide 119 = .ok (.iconst 1, 1) := by decide +kernel
theorem dX12_bigDivide_120 : decode cX12_bigDivide 120 = .ok (.isub, 1) := by decide +kernel
theorem dX12_bigDivide_121 : decode cX12_bigDivide 121 = .ok (.invokevirtual 21, 3) := by decide +kernel
theorem dX12_bigDivide_124 : decode cX12_bigDivide 124 = .ok (.i2l, 1) := by decide +kernel
theorem dX12_bigDivide_125 : decode cX12_bigDivide 125 = .ok (.ladd, 1) := by decide +kernel
theorem dX12_bigDivide_126 : decode cX12_bigDivide 126 = .ok (.lstore 10, 2) := by decide +kernel
theorem dX12_bigDivide_128 : decode cX12_bigDivide 128 = .ok (.lload 10, 2) := by decide +kernel
theorem dX12_bigDivide_130 : decode cX12_bigDivide 130 = .ok (.lload 5, 2) := by decide +kernel
theorem dX12_bigDivide_132 : decode cX12_bigDivide 132 = .ok (.ldiv, 1) := by decide +kernel
theorem dX12_bigDivide_133 : decode cX12_bigDivide 133 = .ok (.lstore 12, 2) := by decide +kernel
theorem dX12_bigDivide_135 : decode cX12_bigDivide 135 = .ok (.lload 12, 2) := by decide +kernel
theorem dX12_bigDivide_137 : decode cX12_bigDivide 137 = .ok (.lconst 1, 1) := by decide +kernel
theorem dX12_bigDivide_138 : decode cX12_bigDivide 138 = .ok (.lcmp, 1) := by decide +kernel
theorem dX12_bigDivide_139 : decode cX12_bigDivide 139 = .ok (.ifCond .ge 7, 3) := by decide +kernel
theorem dX12_bigDivide_142 : decode cX12_bigDivide 142 = .ok (.lconst 1, 1) := by decide +kernel
theorem dX12_bigDivide_143 : decode cX12_bigDivide 143 = .ok (.goto 5, 3) := by decide +kernel
theorem dX12_bigDivide_146 : decode cX12_bigDivide 146 = .ok (.lload 12, 2) := by decide +kernel
theorem dX12_bigDivide_148 : decode cX12_bigDivide 148 = .ok (.lstore 12, 2) := by decide +kernel
theorem dX12_bigDivide_150 : decode cX12_bigDivide 150 = .ok (.aload_n 0, 1) := by decide +kernel
theorem dX12_bigDivide_151 : decode cX12_bigDivide 151 = .ok (.iload_n 1, 1) := by decide +kernel
theorem dX12_bigDivide_152 : decode cX12_bigDivide 152 = .ok (.iload_n 2, 1) := by decide +kernel
theorem dX12_bigDivide_153 : decode cX12_bigDivide 153 = .ok (.lload 12, 2) := by decide +kernel
theorem dX12_bigDivide_155 : decode cX12_bigDivide 155 = .ok (.iload 7, 2) := by decide +kernel
theorem dX12_bigDivide_157 : decode cX12_bigDivide 157 = .ok (.invokevirtual 50, 3) := by decide +kernel
theorem dX12_bigDivide_160 : decode cX12_bigDivide 160 = .ok (.lload 8, 2) := by decide +kernel
theorem dX12_bigDivide_162 : decode cX12_bigDivide 162 = .ok (.lload 12, 2) := by decide +kernel
theorem dX12_bigDivide_164 : decode cX12_bigDivide 164 = .ok (.ladd, 1) := by decide +kernel
theorem dX12_bigDivide_165 : decode cX12_bigDivide 165 = .ok (.lstore 8, 2) := by decide +kernel
theorem dX12_bigDivide_167 : decode cX12_bigDivide 167 = .ok (.goto (-89), 3) := by decide +kernel
theorem dX12_bigDivide_170 : decode cX12_bigDivide 170 = .ok (.aload_n 0, 1) := by decide +kernel
theorem dX12_bigDivide_171 : decode cX12_bigDivide 171 = .ok (.getfield 8, 3) := by decide +kernel
theorem dX12_bigDivide_174 : decode cX12_bigDivide 174 = .ok (.iload_n 3, 1) := by decide +kernel
theorem dX12_bigDivide_175 : decode cX12_bigDivide 175 = .ok (.invokestatic 12, 3) := by decide +kernel
theorem dX12_bigDivide_178 : decode cX12_bigDivide 178 = .ok (.iload 7, 2) := by decide +kernel
theorem dX12_bigDivide_180 : decode cX12_bigDivide 180 = .ok (.iadd, 1) := by decide +kernel
theorem dX12_bigDivide_181 : decode cX12_bigDivide 181 = .ok (.lload 8, 2) := by decide +kernel
theorem dX12_bigDivide_183 : decode cX12_bigDivide 183 = .ok (.l2i, 1) := by decide +kernel
theorem dX12_bigDivide_184 : decode cX12_bigDivide 184 = .ok (.iastore, 1) := by decide +kernel
theorem dX12_bigDivide_185 : decode cX12_bigDivide 185 = .ok (.iinc 7 (-1), 3) := by decide +kernel
theorem dX12_bigDivide_188 : decode cX12_bigDivide 188 = .ok (.goto (-118), 3) := by decide +kernel
theorem dX12_bigDivide_191 : decode cX12_bigDivide 191 = .ok (.aload_n 0, 1) := by decide +kernel
theorem dX12_bigDivide_192 : decode cX12_bigDivide 192 = .ok (.iload_n 3, 1) := by decide +kernel
theorem dX12_bigDivide_193 : decode cX12_bigDivide 193 = .ok (.invokevirtual 32, 3) := by decide +kernel
theorem dX12_bigDivide_196 : decode cX12_bigDivide 196 = .ok (.return_, 1) := by decide +kernel
set_option maxRecDepth 20000 in
theorem ggX12_bigTenth_X12_from : GoodIn wsX12_bigTenth wsX12_from := goodIn_r _ [7, 8] rfl (by decide +kernel)
set_option maxRecDepth 20000 in
theorem gX12_bigTenth_X12_from : GoodIn wsX12_bigTenth (va_wsS RX12 12 yX12_from wsX12_from) := goodIn_app (goodIn_r _ [4, 5, 6] rfl (by decide +kernel)) ggX12_bigTenth_X12_from
set_option maxRecDepth 20000 in
theorem ggX12_bigTenth_X12_bigTrim : GoodIn wsX12_bigTenth wsX12_bigTrim := goodIn_s _ [(12, 1), (1, 1), (3, 6), (13, 58)] rfl (by decide +kernel)
