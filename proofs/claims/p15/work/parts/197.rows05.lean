theorem dX12_go_40 : decode cX12_go 40 = .ok (.aload_n 0, 1) := by decide +kernel
theorem dX12_go_41 : decode cX12_go 41 = .ok (.getfield 148, 3) := by decide +kernel
theorem dX12_go_44 : decode cX12_go 44 = .ok (.aload_n 0, 1) := by decide +kernel
theorem dX12_go_45 : decode cX12_go 45 = .ok (.getfield 172, 3) := by decide +kernel
theorem dX12_go_48 : decode cX12_go 48 = .ok (.iconst 0, 1) := by decide +kernel
theorem dX12_go_49 : decode cX12_go 49 = .ok (.iastore, 1) := by decide +kernel
theorem dX12_go_50 : decode cX12_go 50 = .ok (.aload_n 0, 1) := by decide +kernel
theorem dX12_go_51 : decode cX12_go 51 = .ok (.getfield 154, 3) := by decide +kernel
theorem dX12_go_54 : decode cX12_go 54 = .ok (.iconst 2, 1) := by decide +kernel
theorem dX12_go_55 : decode cX12_go 55 = .ok (.aload_n 0, 1) := by decide +kernel
theorem dX12_go_56 : decode cX12_go 56 = .ok (.getfield 172, 3) := by decide +kernel
theorem dX12_go_59 : decode cX12_go 59 = .ok (.imul, 1) := by decide +kernel
theorem dX12_go_60 : decode cX12_go 60 = .ok (.iconst 0, 1) := by decide +kernel
theorem dX12_go_61 : decode cX12_go 61 = .ok (.iastore, 1) := by decide +kernel
theorem dX12_go_62 : decode cX12_go 62 = .ok (.aload_n 0, 1) := by decide +kernel
theorem dX12_go_63 : decode cX12_go 63 = .ok (.getfield 154, 3) := by decide +kernel
theorem dX12_go_66 : decode cX12_go 66 = .ok (.iconst 2, 1) := by decide +kernel
theorem dX12_go_67 : decode cX12_go 67 = .ok (.aload_n 0, 1) := by decide +kernel
theorem dX12_go_68 : decode cX12_go 68 = .ok (.getfield 172, 3) := by decide +kernel
theorem dX12_go_71 : decode cX12_go 71 = .ok (.imul, 1) := by decide +kernel
theorem dX12_go_72 : decode cX12_go 72 = .ok (.iconst 1, 1) := by decide +kernel
theorem dX12_go_73 : decode cX12_go 73 = .ok (.iadd, 1) := by decide +kernel
theorem dX12_go_74 : decode cX12_go 74 = .ok (.iconst 0, 1) := by decide +kernel
theorem dX12_go_75 : decode cX12_go 75 = .ok (.iastore, 1) := by decide +kernel
theorem dX12_go_76 : decode cX12_go 76 = .ok (.aload_n 0, 1) := by decide +kernel
theorem dX12_go_77 : decode cX12_go 77 = .ok (.iconst 0, 1) := by decide +kernel
theorem dX12_go_78 : decode cX12_go 78 = .ok (.putfield 256, 3) := by decide +kernel
theorem dX12_go_81 : decode cX12_go 81 = .ok (.aload_n 0, 1) := by decide +kernel
theorem dX12_go_82 : decode cX12_go 82 = .ok (.iconst 0, 1) := by decide +kernel
theorem dX12_go_83 : decode cX12_go 83 = .ok (.putfield 275, 3) := by decide +kernel
theorem dX12_go_86 : decode cX12_go 86 = .ok (.aload_n 0, 1) := by decide +kernel
theorem dX12_go_87 : decode cX12_go 87 = .ok (.iconst 0, 1) := by decide +kernel
theorem dX12_go_88 : decode cX12_go 88 = .ok (.putfield 262, 3) := by decide +kernel
theorem dX12_go_91 : decode cX12_go 91 = .ok (.aload_n 0, 1) := by decide +kernel
theorem dX12_go_92 : decode cX12_go 92 = .ok (.lconst 1, 1) := by decide +kernel
theorem dX12_go_93 : decode cX12_go 93 = .ok (.lconst 1, 1) := by decide +kernel
theorem dX12_go_94 : decode cX12_go 94 = .ok (.invokevirtual 278, 3) := by decide +kernel
theorem dX12_go_97 : decode cX12_go 97 = .ok (.aload_n 0, 1) := by decide +kernel
theorem dX12_go_98 : decode cX12_go 98 = .ok (.getfield 275, 3) := by decide +kernel
theorem dX12_go_101 : decode cX12_go 101 = .ok (.ifCond .le 23, 3) := by decide +kernel
theorem dX12_go_104 : decode cX12_go 104 = .ok (.aload_n 0, 1) := by decide +kernel
theorem dX12_go_105 : decode cX12_go 105 = .ok (.getfield 256, 3) := by decide +kernel
theorem dX12_go_108 : decode cX12_go 108 = .ok (.ifCond .ne 16, 3) := by decide +kernel
theorem dX12_go_111 : decode cX12_go 111 = .ok (.aload_n 0, 1) := by decide +kernel
theorem dX12_go_112 : decode cX12_go 112 = .ok (.aload_n 0, 1) := by decide +kernel
theorem dX12_go_113 : decode cX12_go 113 = .ok (.getfield 275, 3) := by decide +kernel
theorem dX12_go_116 : decode cX12_go 116 = .ok (.iconst 1, 1) := by decide +kernel
theorem dX12_go_117 : decode cX12_go 117 = .ok (.isub, 1) := by decide +kernel
theorem dX12_go_118 : decode cX12_go 118 = .ok (.invokevirtual 282, 3) := by decide +kernel
theorem dX12_go_121 : decode cX12_go 121 = .ok (.goto (-24), 3) := by decide +kernel
theorem dX12_go_124 : decode cX12_go 124 = .ok (.aload_n 0, 1) := by decide +kernel
theorem dX12_go_125 : decode cX12_go 125 = .ok (.getfield 256, 3) := by decide +kernel
theorem dX12_go_128 : decode cX12_go 128 = .ok (.ifCond .ne 7, 3) := by decide +kernel
theorem dX12_go_131 : decode cX12_go 131 = .ok (.aload_n 0, 1) := by decide +kernel
theorem dX12_go_132 : decode cX12_go 132 = .ok (.invokevirtual 285, 3) := by decide +kernel
theorem dX12_go_135 : decode cX12_go 135 = .ok (.aload_n 0, 1) := by decide +kernel
theorem dX12_go_136 : decode cX12_go 136 = .ok (.getfield 256, 3) := by decide +kernel
theorem dX12_go_139 : decode cX12_go 139 = .ok (.ireturn, 1) := by decide +kernel
set_option maxRecDepth 20000 in
theorem ggX12_beginNode_X12_stop : GoodIn wsX12_beginNode wsX12_stop := goodIn_s _ [(21, 1), (8, 1), (22, 2), (59, 58)] rfl (by decide +kernel)
set_option maxRecDepth 20000 in
theorem gX12_beginNode_X12_stop : GoodIn wsX12_beginNode (wsV RX12 272 RX12 yX12_stop wsX12_stop) := goodIn_app (goodIn_r _ [17, 18, 19, 20] rfl (by decide +kernel)) ggX12_beginNode_X12_stop
set_option maxRecDepth 20000 in
theorem ggX12_beginNode_X12_findSet : GoodIn wsX12_beginNode wsX12_findSet := goodIn_s _ [(27, 2), (4, 1), (29, 3), (59, 58)] rfl (by decide +kernel)
set_option maxRecDepth 20000 in
theorem gX12_beginNode_X12_findSet : GoodIn wsX12_beginNode (wsV RX12 288 RX12 yX12_findSet wsX12_findSet) := goodIn_app (goodIn_r _ [24, 25, 26, 20] rfl (by decide +kernel)) ggX12_beginNode_X12_findSet
set_option maxRecDepth 20000 in
theorem ggX12_beginNode_X12_divisor : GoodIn wsX12_beginNode wsX12_divisor := goodIn_r _ [34] rfl (by decide +kernel)
set_option maxRecDepth 20000 in
theorem gX12_beginNode_X12_divisor : GoodIn wsX12_beginNode (va_wsS RX12 291 yX12_divisor wsX12_divisor) := goodIn_app (goodIn_r _ [32, 33, 20] rfl (by decide +kernel)) ggX12_beginNode_X12_divisor
set_option maxRecDepth 20000 in
theorem ggX12_beginNode_X12_fraction : GoodIn wsX12_beginNode wsX12_fraction := goodIn_s _ [(38, 1), (1, 2), (6, 1), (39, 2), (17, 5), (8, 1), (22, 2), (59, 58)] rfl (by decide +kernel)
set_option maxRecDepth 20000 in
theorem gX12_beginNode_X12_fraction : GoodIn wsX12_beginNode (wsV RX12 297 RX12 yX12_fraction wsX12_fraction) := goodIn_app (goodIn_r _ [35, 36, 37, 20] rfl (by decide +kernel)) ggX12_beginNode_X12_fraction
set_option maxRecDepth 20000 in
theorem ggX12_beginNode_X12_end : GoodIn wsX12_beginNode wsX12_end := goodIn_s _ [(44, 1), (4, 1), (45, 1), (39, 2), (46, 4), (5, 1), (10, 1), (50, 1), (11, 1), (51, 1), (12, 1), (52, 1), (32, 2), (20, 1), (34, 1), (59, 58)] rfl (by decide +kernel)
set_option maxRecDepth 20000 in
theorem gX12_beginNode_X12_end : GoodIn wsX12_beginNode (wsV RX12 301 RX12 yX12_end wsX12_end) := goodIn_app (goodIn_r _ [41, 42, 43, 20] rfl (by decide +kernel)) ggX12_beginNode_X12_end
set_option maxRecDepth 20000 in
theorem ggX12_beginNode_X12_recall : GoodIn wsX12_beginNode wsX12_recall := goodIn_s _ [(56, 1), (4, 1), (31, 1), (5, 1), (10, 2), (57, 2), (12, 1), (17, 5), (8, 1), (22, 2), (59, 58)] rfl (by decide +kernel)
set_option maxRecDepth 20000 in
theorem gX12_beginNode_X12_recall : GoodIn wsX12_beginNode (wsV RX12 304 RX12 yX12_recall wsX12_recall) := goodIn_app (goodIn_r _ [53, 54, 55, 20] rfl (by decide +kernel)) ggX12_beginNode_X12_recall
theorem dX12_beginNode_0 : decode cX12_beginNode 0 = .ok (.aload_n 0, 1) := by decide +kernel
theorem dX12_beginNode_1 : decode cX12_beginNode 1 = .ok (.getfield 262, 3) := by decide +kernel
theorem dX12_beginNode_4 : decode cX12_beginNode 4 = .ok (.istore 5, 2) := by decide +kernel
theorem dX12_beginNode_6 : decode cX12_beginNode 6 = .ok (.aload_n 0, 1) := by decide +kernel
theorem dX12_beginNode_7 : decode cX12_beginNode 7 = .ok (.getfield 102, 3) := by decide +kernel
theorem dX12_beginNode_10 : decode cX12_beginNode 10 = .ok (.aload_n 0, 1) := by decide +kernel
theorem dX12_beginNode_11 : decode cX12_beginNode 11 = .ok (.getfield 262, 3) := by decide +kernel
theorem dX12_beginNode_14 : decode cX12_beginNode 14 = .ok (.iaload, 1) := by decide +kernel
theorem dX12_beginNode_15 : decode cX12_beginNode 15 = .ok (.istore 6, 2) := by decide +kernel
theorem dX12_beginNode_17 : decode cX12_beginNode 17 = .ok (.aload_n 0, 1) := by decide +kernel
theorem dX12_beginNode_18 : decode cX12_beginNode 18 = .ok (.getfield 114, 3) := by decide +kernel
theorem dX12_beginNode_21 : decode cX12_beginNode 21 = .ok (.aload_n 0, 1) := by decide +kernel
theorem dX12_beginNode_22 : decode cX12_beginNode 22 = .ok (.getfield 172, 3) := by decide +kernel
theorem dX12_beginNode_25 : decode cX12_beginNode 25 = .ok (.dup2, 1) := by decide +kernel
theorem dX12_beginNode_26 : decode cX12_beginNode 26 = .ok (.iaload, 1) := by decide +kernel
theorem dX12_beginNode_27 : decode cX12_beginNode 27 = .ok (.iconst 1, 1) := by decide +kernel
theorem dX12_beginNode_28 : decode cX12_beginNode 28 = .ok (.iadd, 1) := by decide +kernel
theorem dX12_beginNode_29 : decode cX12_beginNode 29 = .ok (.iastore, 1) := by decide +kernel
theorem dX12_beginNode_30 : decode cX12_beginNode 30 = .ok (.aload_n 0, 1) := by decide +kernel
theorem dX12_beginNode_31 : decode cX12_beginNode 31 = .ok (.getfield 114, 3) := by decide +kernel
theorem dX12_beginNode_34 : decode cX12_beginNode 34 = .ok (.aload_n 0, 1) := by decide +kernel
theorem dX12_beginNode_35 : decode cX12_beginNode 35 = .ok (.getfield 172, 3) := by decide +kernel
theorem dX12_beginNode_38 : decode cX12_beginNode 38 = .ok (.iaload, 1) := by decide +kernel
theorem dX12_beginNode_39 : decode cX12_beginNode 39 = .ok (.sipush 400, 3) := by decide +kernel
theorem dX12_beginNode_42 : decode cX12_beginNode 42 = .ok (.if_icmp .gt 12, 3) := by decide +kernel
theorem dX12_beginNode_45 : decode cX12_beginNode 45 = .ok (.aload_n 0, 1) := by decide +kernel
theorem dX12_beginNode_46 : decode cX12_beginNode 46 = .ok (.getfield 275, 3) := by decide +kernel
theorem dX12_beginNode_49 : decode cX12_beginNode 49 = .ok (.bipush 20, 2) := by decide +kernel
theorem dX12_beginNode_51 : decode cX12_beginNode 51 = .ok (.if_icmp .le 11, 3) := by decide +kernel
theorem dX12_beginNode_54 : decode cX12_beginNode 54 = .ok (.aload_n 0, 1) := by decide +kernel
theorem dX12_beginNode_55 : decode cX12_beginNode 55 = .ok (.iconst 2, 1) := by decide +kernel
theorem dX12_beginNode_56 : decode cX12_beginNode 56 = .ok (.iload 5, 2) := by decide +kernel
theorem dX12_beginNode_58 : decode cX12_beginNode 58 = .ok (.invokevirtual 272, 3) := by decide +kernel
theorem dX12_beginNode_61 : decode cX12_beginNode 61 = .ok (.return_, 1) := by decide +kernel
theorem dX12_beginNode_62 : decode cX12_beginNode 62 = .ok (.iconst (-1), 1) := by decide +kernel
theorem dX12_beginNode_63 : decode cX12_beginNode 63 = .ok (.istore 7, 2) := by decide +kernel
theorem dX12_beginNode_65 : decode cX12_beginNode 65 = .ok (.iload 6, 2) := by decide +kernel
theorem dX12_beginNode_67 : decode cX12_beginNode 67 = .ok (.bipush 65, 2) := by decide +kernel
theorem dX12_beginNode_69 : decode cX12_beginNode 69 = .ok (.if_icmp .eq 10, 3) := by decide +kernel
theorem dX12_beginNode_72 : decode cX12_beginNode 72 = .ok (.iload 6, 2) := by decide +kernel
theorem dX12_beginNode_74 : decode cX12_beginNode 74 = .ok (.bipush 66, 2) := by decide +kernel
theorem dX12_beginNode_76 : decode cX12_beginNode 76 = .ok (.if_icmp .ne 45, 3) := by decide +kernel
theorem dX12_beginNode_79 : decode cX12_beginNode 79 = .ok (.aload_n 0, 1) := by decide +kernel
theorem dX12_beginNode_80 : decode cX12_beginNode 80 = .ok (.iload 6, 2) := by decide +kernel
theorem dX12_beginNode_82 : decode cX12_beginNode 82 = .ok (.bipush 65, 2) := by decide +kernel
theorem dX12_beginNode_84 : decode cX12_beginNode 84 = .ok (.if_icmp .ne 7, 3) := by decide +kernel
theorem dX12_beginNode_87 : decode cX12_beginNode 87 = .ok (.iconst 0, 1) := by decide +kernel
theorem dX12_beginNode_88 : decode cX12_beginNode 88 = .ok (.goto 4, 3) := by decide +kernel
theorem dX12_beginNode_91 : decode cX12_beginNode 91 = .ok (.iconst 1, 1) := by decide +kernel
theorem dX12_beginNode_92 : decode cX12_beginNode 92 = .ok (.aload_n 0, 1) := by decide +kernel
theorem dX12_beginNode_93 : decode cX12_beginNode 93 = .ok (.getfield 108, 3) := by decide +kernel
theorem dX12_beginNode_96 : decode cX12_beginNode 96 = .ok (.aload_n 0, 1) := by decide +kernel
theorem dX12_beginNode_97 : decode cX12_beginNode 97 = .ok (.getfield 262, 3) := by decide +kernel
theorem dX12_beginNode_100 : decode cX12_beginNode 100 = .ok (.iconst 1, 1) := by decide +kernel
theorem dX12_beginNode_101 : decode cX12_beginNode 101 = .ok (.iadd, 1) := by decide +kernel
theorem dX12_beginNode_102 : decode cX12_beginNode 102 = .ok (.iaload, 1) := by decide +kernel
theorem dX12_beginNode_103 : decode cX12_beginNode 103 = .ok (.invokevirtual 288, 3) := by decide +kernel
theorem dX12_beginNode_106 : decode cX12_beginNode 106 = .ok (.istore 7, 2) := by decide +kernel
theorem dX12_beginNode_108 : decode cX12_beginNode 108 = .ok (.iload 7, 2) := by decide +kernel
theorem dX12_beginNode_110 : decode cX12_beginNode 110 = .ok (.ifCond .ge 11, 3) := by decide +kernel
theorem dX12_beginNode_113 : decode cX12_beginNode 113 = .ok (.aload_n 0, 1) := by decide +kernel
theorem dX12_beginNode_114 : decode cX12_beginNode 114 = .ok (.iconst 2, 1) := by decide +kernel
theorem dX12_beginNode_115 : decode cX12_beginNode 115 = .ok (.iload 5, 2) := by decide +kernel
theorem dX12_beginNode_117 : decode cX12_beginNode 117 = .ok (.invokevirtual 272, 3) := by decide +kernel
theorem dX12_beginNode_120 : decode cX12_beginNode 120 = .ok (.return_, 1) := by decide +kernel
theorem dX12_beginNode_121 : decode cX12_beginNode 121 = .ok (.lload_n 1, 1) := by decide +kernel
theorem dX12_beginNode_122 : decode cX12_beginNode 122 = .ok (.lload_n 3, 1) := by decide +kernel
theorem dX12_beginNode_123 : decode cX12_beginNode 123 = .ok (.invokestatic 291, 3) := by decide +kernel
theorem dX12_beginNode_126 : decode cX12_beginNode 126 = .ok (.lstore 8, 2) := by decide +kernel
theorem dX12_beginNode_128 : decode cX12_beginNode 128 = .ok (.lload_n 3, 1) := by decide +kernel
theorem dX12_beginNode_129 : decode cX12_beginNode 129 = .ok (.lload 8, 2) := by decide +kernel
theorem dX12_beginNode_131 : decode cX12_beginNode 131 = .ok (.ldiv, 1) := by decide +kernel
theorem dX12_beginNode_132 : decode cX12_beginNode 132 = .ok (.ldc2_w 295, 3) := by decide +kernel
theorem dX12_beginNode_135 : decode cX12_beginNode 135 = .ok (.lcmp, 1) := by decide +kernel
theorem dX12_beginNode_136 : decode cX12_beginNode 136 = .ok (.ifCond .lt 12, 3) := by decide +kernel
theorem dX12_beginNode_139 : decode cX12_beginNode 139 = .ok (.aload_n 0, 1) := by decide +kernel
theorem dX12_beginNode_140 : decode cX12_beginNode 140 = .ok (.bipush 6, 2) := by decide +kernel
theorem dX12_beginNode_142 : decode cX12_beginNode 142 = .ok (.iload 5, 2) := by decide +kernel
theorem dX12_beginNode_144 : decode cX12_beginNode 144 = .ok (.invokevirtual 272, 3) := by decide +kernel
theorem dX12_beginNode_147 : decode cX12_beginNode 147 = .ok (.return_, 1) := by decide +kernel
theorem dX12_beginNode_148 : decode cX12_beginNode 148 = .ok (.iload 6, 2) := by decide +kernel
theorem dX12_beginNode_150 : decode cX12_beginNode 150 = .ok (.bipush 91, 2) := by decide +kernel
theorem dX12_beginNode_152 : decode cX12_beginNode 152 = .ok (.if_icmp .ne 48, 3) := by decide +kernel
theorem dX12_beginNode_155 : decode cX12_beginNode 155 = .ok (.aload_n 0, 1) := by decide +kernel
theorem dX12_beginNode_156 : decode cX12_beginNode 156 = .ok (.dup, 1) := by decide +kernel
theorem dX12_beginNode_157 : decode cX12_beginNode 157 = .ok (.getfield 262, 3) := by decide +kernel
theorem dX12_beginNode_160 : decode cX12_beginNode 160 = .ok (.iconst 1, 1) := by decide +kernel
theorem dX12_beginNode_161 : decode cX12_beginNode 161 = .ok (.iadd, 1) := by decide +kernel
theorem dX12_beginNode_162 : decode cX12_beginNode 162 = .ok (.putfield 262, 3) := by decide +kernel
theorem dX12_beginNode_165 : decode cX12_beginNode 165 = .ok (.aload_n 0, 1) := by decide +kernel
theorem dX12_beginNode_166 : decode cX12_beginNode 166 = .ok (.iconst 0, 1) := by decide +kernel
theorem dX12_beginNode_167 : decode cX12_beginNode 167 = .ok (.invokevirtual 297, 3) := by decide +kernel
theorem dX12_beginNode_170 : decode cX12_beginNode 170 = .ok (.aload_n 0, 1) := by decide +kernel
theorem dX12_beginNode_171 : decode cX12_beginNode 171 = .ok (.getfield 256, 3) := by decide +kernel
theorem dX12_beginNode_174 : decode cX12_beginNode 174 = .ok (.ifCond .ne 25, 3) := by decide +kernel
theorem dX12_beginNode_177 : decode cX12_beginNode 177 = .ok (.aload_n 0, 1) := by decide +kernel
theorem dX12_beginNode_178 : decode cX12_beginNode 178 = .ok (.lload_n 1, 1) := by decide +kernel
theorem dX12_beginNode_179 : decode cX12_beginNode 179 = .ok (.lload 8, 2) := by decide +kernel
theorem dX12_beginNode_181 : decode cX12_beginNode 181 = .ok (.ldiv, 1) := by decide +kernel
theorem dX12_beginNode_182 : decode cX12_beginNode 182 = .ok (.lload_n 3, 1) := by decide +kernel
theorem dX12_beginNode_183 : decode cX12_beginNode 183 = .ok (.lload 8, 2) := by decide +kernel
theorem dX12_beginNode_185 : decode cX12_beginNode 185 = .ok (.ldiv, 1) := by decide +kernel
theorem dX12_beginNode_186 : decode cX12_beginNode 186 = .ok (.invokevirtual 301, 3) := by decide +kernel
theorem dX12_beginNode_189 : decode cX12_beginNode 189 = .ok (.aload_n 0, 1) := by decide +kernel
theorem dX12_beginNode_190 : decode cX12_beginNode 190 = .ok (.dup, 1) := by decide +kernel
theorem dX12_beginNode_191 : decode cX12_beginNode 191 = .ok (.getfield 262, 3) := by decide +kernel
theorem dX12_beginNode_194 : decode cX12_beginNode 194 = .ok (.iconst 1, 1) := by decide +kernel
theorem dX12_beginNode_195 : decode cX12_beginNode 195 = .ok (.iadd, 1) := by decide +kernel
theorem dX12_beginNode_196 : decode cX12_beginNode 196 = .ok (.putfield 262, 3) := by decide +kernel
theorem dX12_beginNode_199 : decode cX12_beginNode 199 = .ok (.return_, 1) := by decide +kernel
theorem dX12_beginNode_200 : decode cX12_beginNode 200 = .ok (.aload_n 0, 1) := by decide +kernel
theorem dX12_beginNode_201 : decode cX12_beginNode 201 = .ok (.getfield 175, 3) := by decide +kernel
theorem dX12_beginNode_204 : decode cX12_beginNode 204 = .ok (.aload_n 0, 1) := by decide +kernel
theorem dX12_beginNode_205 : decode cX12_beginNode 205 = .ok (.getfield 275, 3) := by decide +kernel
theorem dX12_beginNode_208 : decode cX12_beginNode 208 = .ok (.iload 5, 2) := by decide +kernel
theorem dX12_beginNode_210 : decode cX12_beginNode 210 = .ok (.iastore, 1) := by decide +kernel
theorem dX12_beginNode_211 : decode cX12_beginNode 211 = .ok (.aload_n 0, 1) := by decide +kernel
theorem dX12_beginNode_212 : decode cX12_beginNode 212 = .ok (.getfield 178, 3) := by decide +kernel
theorem dX12_beginNode_215 : decode cX12_beginNode 215 = .ok (.aload_n 0, 1) := by decide +kernel
theorem dX12_beginNode_216 : decode cX12_beginNode 216 = .ok (.getfield 275, 3) := by decide +kernel
theorem dX12_beginNode_219 : decode cX12_beginNode 219 = .ok (.iload 6, 2) := by decide +kernel
theorem dX12_beginNode_221 : decode cX12_beginNode 221 = .ok (.iastore, 1) := by decide +kernel
theorem dX12_beginNode_222 : decode cX12_beginNode 222 = .ok (.aload_n 0, 1) := by decide +kernel
theorem dX12_beginNode_223 : decode cX12_beginNode 223 = .ok (.getfield 181, 3) := by decide +kernel
theorem dX12_beginNode_226 : decode cX12_beginNode 226 = .ok (.aload_n 0, 1) := by decide +kernel
theorem dX12_beginNode_227 : decode cX12_beginNode 227 = .ok (.getfield 275, 3) := by decide +kernel
theorem dX12_beginNode_230 : decode cX12_beginNode 230 = .ok (.iload 7, 2) := by decide +kernel
theorem dX12_beginNode_232 : decode cX12_beginNode 232 = .ok (.iastore, 1) := by decide +kernel
theorem dX12_beginNode_233 : decode cX12_beginNode 233 = .ok (.aload_n 0, 1) := by decide +kernel
theorem dX12_beginNode_234 : decode cX12_beginNode 234 = .ok (.getfield 184, 3) := by decide +kernel
theorem dX12_beginNode_237 : decode cX12_beginNode 237 = .ok (.aload_n 0, 1) := by decide +kernel
theorem dX12_beginNode_238 : decode cX12_beginNode 238 = .ok (.getfield 275, 3) := by decide +kernel
theorem dX12_beginNode_241 : decode cX12_beginNode 241 = .ok (.iconst (-1), 1) := by decide +kernel
theorem dX12_beginNode_242 : decode cX12_beginNode 242 = .ok (.iastore, 1) := by decide +kernel
theorem dX12_beginNode_243 : decode cX12_beginNode 243 = .ok (.aload_n 0, 1) := by decide +kernel
theorem dX12_beginNode_244 : decode cX12_beginNode 244 = .ok (.getfield 187, 3) := by decide +kernel
theorem dX12_beginNode_247 : decode cX12_beginNode 247 = .ok (.aload_n 0, 1) := by decide +kernel
theorem dX12_beginNode_248 : decode cX12_beginNode 248 = .ok (.getfield 275, 3) := by decide +kernel
theorem dX12_beginNode_251 : decode cX12_beginNode 251 = .ok (.lload_n 1, 1) := by decide +kernel
theorem dX12_beginNode_252 : decode cX12_beginNode 252 = .ok (.lload 8, 2) := by decide +kernel
theorem dX12_beginNode_254 : decode cX12_beginNode 254 = .ok (.ldiv, 1) := by decide +kernel
theorem dX12_beginNode_255 : decode cX12_beginNode 255 = .ok (.lastore, 1) := by decide +kernel
theorem dX12_beginNode_256 : decode cX12_beginNode 256 = .ok (.aload_n 0, 1) := by decide +kernel
theorem dX12_beginNode_257 : decode cX12_beginNode 257 = .ok (.getfield 190, 3) := by decide +kernel
theorem dX12_beginNode_260 : decode cX12_beginNode 260 = .ok (.aload_n 0, 1) := by decide +kernel
theorem dX12_beginNode_261 : decode cX12_beginNode 261 = .ok (.getfield 275, 3) := by decide +kernel
theorem dX12_beginNode_264 : decode cX12_beginNode 264 = .ok (.lload_n 3, 1) := by decide +kernel
theorem dX12_beginNode_265 : decode cX12_beginNode 265 = .ok (.lload 8, 2) := by decide +kernel
theorem dX12_beginNode_267 : decode cX12_beginNode 267 = .ok (.ldiv, 1) := by decide +kernel
theorem dX12_beginNode_268 : decode cX12_beginNode 268 = .ok (.lastore, 1) := by decide +kernel
theorem dX12_beginNode_269 : decode cX12_beginNode 269 = .ok (.iload 6, 2) := by decide +kernel
theorem dX12_beginNode_271 : decode cX12_beginNode 271 = .ok (.bipush 63, 2) := by decide +kernel
theorem dX12_beginNode_273 : decode cX12_beginNode 273 = .ok (.if_icmp .ne 29, 3) := by decide +kernel
theorem dX12_beginNode_276 : decode cX12_beginNode 276 = .ok (.aload_n 0, 1) := by decide +kernel
theorem dX12_beginNode_277 : decode cX12_beginNode 277 = .ok (.getfield 120, 3) := by decide +kernel
theorem dX12_beginNode_280 : decode cX12_beginNode 280 = .ok (.aload_n 0, 1) := by decide +kernel
theorem dX12_beginNode_281 : decode cX12_beginNode 281 = .ok (.getfield 172, 3) := by decide +kernel
theorem dX12_beginNode_284 : decode cX12_beginNode 284 = .ok (.dup2, 1) := by decide +kernel
theorem dX12_beginNode_285 : decode cX12_beginNode 285 = .ok (.iaload, 1) := by decide +kernel
theorem dX12_beginNode_286 : decode cX12_beginNode 286 = .ok (.iconst 1, 1) := by decide +kernel
theorem dX12_beginNode_287 : decode cX12_beginNode 287 = .ok (.iadd, 1) := by decide +kernel
theorem dX12_beginNode_288 : decode cX12_beginNode 288 = .ok (.iastore, 1) := by decide +kernel
theorem dX12_beginNode_289 : decode cX12_beginNode 289 = .ok (.aload_n 0, 1) := by decide +kernel
theorem dX12_beginNode_290 : decode cX12_beginNode 290 = .ok (.aload_n 0, 1) := by decide +kernel
theorem dX12_beginNode_291 : decode cX12_beginNode 291 = .ok (.getfield 262, 3) := by decide +kernel
theorem dX12_beginNode_294 : decode cX12_beginNode 294 = .ok (.iconst 2, 1) := by decide +kernel
theorem dX12_beginNode_295 : decode cX12_beginNode 295 = .ok (.iadd, 1) := by decide +kernel
theorem dX12_beginNode_296 : decode cX12_beginNode 296 = .ok (.putfield 262, 3) := by decide +kernel
theorem dX12_beginNode_299 : decode cX12_beginNode 299 = .ok (.goto 34, 3) := by decide +kernel
theorem dX12_beginNode_302 : decode cX12_beginNode 302 = .ok (.aload_n 0, 1) := by decide +kernel
theorem dX12_beginNode_303 : decode cX12_beginNode 303 = .ok (.getfield 123, 3) := by decide +kernel
theorem dX12_beginNode_306 : decode cX12_beginNode 306 = .ok (.aload_n 0, 1) := by decide +kernel
theorem dX12_beginNode_307 : decode cX12_beginNode 307 = .ok (.getfield 172, 3) := by decide +kernel
theorem dX12_beginNode_310 : decode cX12_beginNode 310 = .ok (.dup2, 1) := by decide +kernel
theorem dX12_beginNode_311 : decode cX12_beginNode 311 = .ok (.iaload, 1) := by decide +kernel
theorem dX12_beginNode_312 : decode cX12_beginNode 312 = .ok (.iconst 1, 1) := by decide +kernel
theorem dX12_beginNode_313 : decode cX12_beginNode 313 = .ok (.iadd, 1) := by decide +kernel
theorem dX12_beginNode_314 : decode cX12_beginNode 314 = .ok (.iastore, 1) := by decide +kernel
theorem dX12_beginNode_315 : decode cX12_beginNode 315 = .ok (.aload_n 0, 1) := by decide +kernel
theorem dX12_beginNode_316 : decode cX12_beginNode 316 = .ok (.iload 7, 2) := by decide +kernel
theorem dX12_beginNode_318 : decode cX12_beginNode 318 = .ok (.iload 5, 2) := by decide +kernel
theorem dX12_beginNode_320 : decode cX12_beginNode 320 = .ok (.invokevirtual 304, 3) := by decide +kernel
theorem dX12_beginNode_323 : decode cX12_beginNode 323 = .ok (.aload_n 0, 1) := by decide +kernel
theorem dX12_beginNode_324 : decode cX12_beginNode 324 = .ok (.aload_n 0, 1) := by decide +kernel
theorem dX12_beginNode_325 : decode cX12_beginNode 325 = .ok (.getfield 262, 3) := by decide +kernel
theorem dX12_beginNode_328 : decode cX12_beginNode 328 = .ok (.iconst 3, 1) := by decide +kernel
theorem dX12_beginNode_329 : decode cX12_beginNode 329 = .ok (.iadd, 1) := by decide +kernel
theorem dX12_beginNode_330 : decode cX12_beginNode 330 = .ok (.putfield 262, 3) := by decide +kernel
theorem dX12_beginNode_333 : decode cX12_beginNode 333 = .ok (.aload_n 0, 1) := by decide +kernel
theorem dX12_beginNode_334 : decode cX12_beginNode 334 = .ok (.dup, 1) := by decide +kernel
theorem dX12_beginNode_335 : decode cX12_beginNode 335 = .ok (.getfield 275, 3) := by decide +kernel
theorem dX12_beginNode_338 : decode cX12_beginNode 338 = .ok (.iconst 1, 1) := by decide +kernel
theorem dX12_beginNode_339 : decode cX12_beginNode 339 = .ok (.iadd, 1) := by decide +kernel
theorem dX12_beginNode_340 : decode cX12_beginNode 340 = .ok (.putfield 275, 3) := by decide +kernel
theorem dX12_beginNode_343 : decode cX12_beginNode 343 = .ok (.return_, 1) := by decide +kernel
theorem dX12_findSet_0 : decode cX12_findSet 0 = .ok (.aload_n 0, 1) := by decide +kernel
theorem dX12_findSet_1 : decode cX12_findSet 1 = .ok (.getfield 154, 3) := by decide +kernel
theorem dX12_findSet_4 : decode cX12_findSet 4 = .ok (.iconst 2, 1) := by decide +kernel
theorem dX12_findSet_5 : decode cX12_findSet 5 = .ok (.aload_n 0, 1) := by decide +kernel
theorem dX12_findSet_6 : decode cX12_findSet 6 = .ok (.getfield 172, 3) := by decide +kernel
theorem dX12_findSet_9 : decode cX12_findSet 9 = .ok (.imul, 1) := by decide +kernel
theorem dX12_findSet_10 : decode cX12_findSet 10 = .ok (.iload_n 1, 1) := by decide +kernel
theorem dX12_findSet_11 : decode cX12_findSet 11 = .ok (.iadd, 1) := by decide +kernel
theorem dX12_findSet_12 : decode cX12_findSet 12 = .ok (.iaload, 1) := by decide +kernel
theorem dX12_findSet_13 : decode cX12_findSet 13 = .ok (.istore_n 3, 1) := by decide +kernel
theorem dX12_findSet_14 : decode cX12_findSet 14 = .ok (.iconst 0, 1) := by decide +kernel
theorem dX12_findSet_15 : decode cX12_findSet 15 = .ok (.istore 4, 2) := by decide +kernel
theorem dX12_findSet_17 : decode cX12_findSet 17 = .ok (.iload 4, 2) := by decide +kernel
theorem dX12_findSet_19 : decode cX12_findSet 19 = .ok (.iload_n 3, 1) := by decide +kernel
theorem dX12_findSet_20 : decode cX12_findSet 20 = .ok (.if_icmp .ge 41, 3) := by decide +kernel
theorem dX12_findSet_23 : decode cX12_findSet 23 = .ok (.aload_n 0, 1) := by decide +kernel
theorem dX12_findSet_24 : decode cX12_findSet 24 = .ok (.getfield 157, 3) := by decide +kernel
theorem dX12_findSet_27 : decode cX12_findSet 27 = .ok (.bipush 20, 2) := by decide +kernel
theorem dX12_findSet_29 : decode cX12_findSet 29 = .ok (.aload_n 0, 1) := by decide +kernel
theorem dX12_findSet_30 : decode cX12_findSet 30 = .ok (.getfield 172, 3) := by decide +kernel
theorem dX12_findSet_33 : decode cX12_findSet 33 = .ok (.imul, 1) := by decide +kernel
theorem dX12_findSet_34 : decode cX12_findSet 34 = .ok (.bipush 10, 2) := by decide +kernel
theorem dX12_findSet_36 : decode cX12_findSet 36 = .ok (.iload_n 1, 1) := by decide +kernel
theorem dX12_findSet_37 : decode cX12_findSet 37 = .ok (.imul, 1) := by decide +kernel
theorem dX12_findSet_38 : decode cX12_findSet 38 = .ok (.iadd, 1) := by decide +kernel
theorem dX12_findSet_39 : decode cX12_findSet 39 = .ok (.iload 4, 2) := by decide +kernel
theorem dX12_findSet_41 : decode cX12_findSet 41 = .ok (.iadd, 1) := by decide +kernel
theorem dX12_findSet_42 : decode cX12_findSet 42 = .ok (.iaload, 1) := by decide +kernel
theorem dX12_findSet_43 : decode cX12_findSet 43 = .ok (.iload_n 2, 1) := by decide +kernel
theorem dX12_findSet_44 : decode cX12_findSet 44 = .ok (.if_icmp .ne 11, 3) := by decide +kernel
theorem dX12_findSet_47 : decode cX12_findSet 47 = .ok (.bipush 10, 2) := by decide +kernel
theorem dX12_findSet_49 : decode cX12_findSet 49 = .ok (.iload_n 1, 1) := by decide +kernel
theorem dX12_findSet_50 : decode cX12_findSet 50 = .ok (.imul, 1) := by decide +kernel
theorem dX12_findSet_51 : decode cX12_findSet 51 = .ok (.iload 4, 2) := by decide +kernel
theorem dX12_findSet_53 : decode cX12_findSet 53 = .ok (.iadd, 1) := by decide +kernel
theorem dX12_findSet_54 : decode cX12_findSet 54 = .ok (.ireturn, 1) := by decide +kernel
theorem dX12_findSet_55 : decode cX12_findSet 55 = .ok (.iinc 4 1, 3) := by decide +kernel
theorem dX12_findSet_58 : decode cX12_findSet 58 = .ok (.goto (-41), 3) := by decide +kernel
theorem dX12_findSet_61 : decode cX12_findSet 61 = .ok (.iload_n 3, 1) := by decide +kernel
theorem dX12_findSet_62 : decode cX12_findSet 62 = .ok (.bipush 10, 2) := by decide +kernel
theorem dX12_findSet_64 : decode cX12_findSet 64 = .ok (.if_icmp .ne 5, 3) := by decide +kernel
theorem dX12_findSet_67 : decode cX12_findSet 67 = .ok (.iconst (-1), 1) := by decide +kernel
theorem dX12_findSet_68 : decode cX12_findSet 68 = .ok (.ireturn, 1) := by decide +kernel
theorem dX12_findSet_69 : decode cX12_findSet 69 = .ok (.bipush 10, 2) := by decide +kernel
theorem dX12_findSet_71 : decode cX12_findSet 71 = .ok (.iload_n 1, 1) := by decide +kernel
theorem dX12_findSet_72 : decode cX12_findSet 72 = .ok (.imul, 1) := by decide +kernel
theorem dX12_findSet_73 : decode cX12_findSet 73 = .ok (.iload_n 3, 1) := by decide +kernel
theorem dX12_findSet_74 : decode cX12_findSet 74 = .ok (.iadd, 1) := by decide +kernel
theorem dX12_findSet_75 : decode cX12_findSet 75 = .ok (.istore 4, 2) := by decide +kernel
theorem dX12_findSet_77 : decode cX12_findSet 77 = .ok (.aload_n 0, 1) := by decide +kernel
theorem dX12_findSet_78 : decode cX12_findSet 78 = .ok (.getfield 157, 3) := by decide +kernel
theorem dX12_findSet_81 : decode cX12_findSet 81 = .ok (.bipush 20, 2) := by decide +kernel
theorem dX12_findSet_83 : decode cX12_findSet 83 = .ok (.aload_n 0, 1) := by decide +kernel
theorem dX12_findSet_84 : decode cX12_findSet 84 = .ok (.getfield 172, 3) := by decide +kernel
theorem dX12_findSet_87 : decode cX12_findSet 87 = .ok (.imul, 1) := by decide +kernel
theorem dX12_findSet_88 : decode cX12_findSet 88 = .ok (.iload 4, 2) := by decide +kernel
theorem dX12_findSet_90 : decode cX12_findSet 90 = .ok (.iadd, 1) := by decide +kernel
theorem dX12_findSet_91 : decode cX12_findSet 91 = .ok (.iload_n 2, 1) := by decide +kernel
theorem dX12_findSet_92 : decode cX12_findSet 92 = .ok (.iastore, 1) := by decide +kernel
theorem dX12_findSet_93 : decode cX12_findSet 93 = .ok (.aload_n 0, 1) := by decide +kernel
theorem dX12_findSet_94 : decode cX12_findSet 94 = .ok (.getfield 160, 3) := by decide +kernel
theorem dX12_findSet_97 : decode cX12_findSet 97 = .ok (.bipush 20, 2) := by decide +kernel
theorem dX12_findSet_99 : decode cX12_findSet 99 = .ok (.aload_n 0, 1) := by decide +kernel
theorem dX12_findSet_100 : decode cX12_findSet 100 = .ok (.getfield 172, 3) := by decide +kernel
theorem dX12_findSet_103 : decode cX12_findSet 103 = .ok (.imul, 1) := by decide +kernel
theorem dX12_findSet_104 : decode cX12_findSet 104 = .ok (.iload 4, 2) := by decide +kernel
theorem dX12_findSet_106 : decode cX12_findSet 106 = .ok (.iadd, 1) := by decide +kernel
theorem dX12_findSet_107 : decode cX12_findSet 107 = .ok (.iconst 0, 1) := by decide +kernel
theorem dX12_findSet_108 : decode cX12_findSet 108 = .ok (.iastore, 1) := by decide +kernel
theorem dX12_findSet_109 : decode cX12_findSet 109 = .ok (.aload_n 0, 1) := by decide +kernel
theorem dX12_findSet_110 : decode cX12_findSet 110 = .ok (.getfield 163, 3) := by decide +kernel
theorem dX12_findSet_113 : decode cX12_findSet 113 = .ok (.bipush 20, 2) := by decide +kernel
theorem dX12_findSet_115 : decode cX12_findSet 115 = .ok (.aload_n 0, 1) := by decide +kernel
theorem dX12_findSet_116 : decode cX12_findSet 116 = .ok (.getfield 172, 3) := by decide +kernel
theorem dX12_findSet_119 : decode cX12_findSet 119 = .ok (.imul, 1) := by decide +kernel
theorem dX12_findSet_120 : decode cX12_findSet 120 = .ok (.iload 4, 2) := by decide +kernel
theorem dX12_findSet_122 : decode cX12_findSet 122 = .ok (.iadd, 1) := by decide +kernel
theorem dX12_findSet_123 : decode cX12_findSet 123 = .ok (.iconst (-1), 1) := by decide +kernel
theorem dX12_findSet_124 : decode cX12_findSet 124 = .ok (.iastore, 1) := by decide +kernel
theorem dX12_findSet_125 : decode cX12_findSet 125 = .ok (.aload_n 0, 1) := by decide +kernel
theorem dX12_findSet_126 : decode cX12_findSet 126 = .ok (.getfield 154, 3) := by decide +kernel
theorem dX12_findSet_129 : decode cX12_findSet 129 = .ok (.iconst 2, 1) := by decide +kernel
theorem dX12_findSet_130 : decode cX12_findSet 130 = .ok (.aload_n 0, 1) := by decide +kernel
theorem dX12_findSet_131 : decode cX12_findSet 131 = .ok (.getfield 172, 3) := by decide +kernel
theorem dX12_findSet_134 : decode cX12_findSet 134 = .ok (.imul, 1) := by decide +kernel
theorem dX12_findSet_135 : decode cX12_findSet 135 = .ok (.iload_n 1, 1) := by decide +kernel
theorem dX12_findSet_136 : decode cX12_findSet 136 = .ok (.iadd, 1) := by decide +kernel
theorem dX12_findSet_137 : decode cX12_findSet 137 = .ok (.iload_n 3, 1) := by decide +kernel
theorem dX12_findSet_138 : decode cX12_findSet 138 = .ok (.iconst 1, 1) := by decide +kernel
theorem dX12_findSet_139 : decode cX12_findSet 139 = .ok (.iadd, 1) := by decide +kernel
theorem dX12_findSet_140 : decode cX12_findSet 140 = .ok (.iastore, 1) := by decide +kernel
theorem dX12_findSet_141 : decode cX12_findSet 141 = .ok (.iload 4, 2) := by decide +kernel
theorem dX12_findSet_143 : decode cX12_findSet 143 = .ok (.ireturn, 1) := by decide +kernel
set_option maxRecDepth 20000 in
theorem ggX12_recall_X12_stop : GoodIn wsX12_recall wsX12_stop := goodIn_s _ [(13, 62)] rfl (by decide +kernel)
set_option maxRecDepth 20000 in
theorem gX12_recall_X12_stop : GoodIn wsX12_recall (wsV RX12 272 RX12 yX12_stop wsX12_stop) := goodIn_app (goodIn_r _ [9, 10, 11, 12] rfl (by decide +kernel)) ggX12_recall_X12_stop
theorem dX12_recall_0 : decode cX12_recall 0 = .ok (.bipush 20, 2) := by decide +kernel
theorem dX12_recall_2 : decode cX12_recall 2 = .ok (.aload_n 0, 1) := by decide +kernel
theorem dX12_recall_3 : decode cX12_recall 3 = .ok (.getfield 172, 3) := by decide +kernel
theorem dX12_recall_6 : decode cX12_recall 6 = .ok (.imul, 1) := by decide +kernel
theorem dX12_recall_7 : decode cX12_recall 7 = .ok (.iload_n 1, 1) := by decide +kernel
theorem dX12_recall_8 : decode cX12_recall 8 = .ok (.iadd, 1) := by decide +kernel
theorem dX12_recall_9 : decode cX12_recall 9 = .ok (.istore_n 3, 1) := by decide +kernel
theorem dX12_recall_10 : decode cX12_recall 10 = .ok (.aload_n 0, 1) := by decide +kernel
theorem dX12_recall_11 : decode cX12_recall 11 = .ok (.getfield 163, 3) := by decide +kernel
theorem dX12_recall_14 : decode cX12_recall 14 = .ok (.iload_n 3, 1) := by decide +kernel
theorem dX12_recall_15 : decode cX12_recall 15 = .ok (.iaload, 1) := by decide +kernel
theorem dX12_recall_16 : decode cX12_recall 16 = .ok (.ifCond .ge 7, 3) := by decide +kernel
theorem dX12_recall_19 : decode cX12_recall 19 = .ok (.iconst 1, 1) := by decide +kernel
theorem dX12_recall_20 : decode cX12_recall 20 = .ok (.goto 4, 3) := by decide +kernel
theorem dX12_recall_23 : decode cX12_recall 23 = .ok (.iconst 0, 1) := by decide +kernel
theorem dX12_recall_24 : decode cX12_recall 24 = .ok (.istore 4, 2) := by decide +kernel
theorem dX12_recall_26 : decode cX12_recall 26 = .ok (.iconst 0, 1) := by decide +kernel
theorem dX12_recall_27 : decode cX12_recall 27 = .ok (.istore 5, 2) := by decide +kernel
theorem dX12_recall_29 : decode cX12_recall 29 = .ok (.iconst 1, 1) := by decide +kernel
theorem dX12_recall_30 : decode cX12_recall 30 = .ok (.istore 6, 2) := by decide +kernel
theorem dX12_recall_32 : decode cX12_recall 32 = .ok (.iconst 0, 1) := by decide +kernel
theorem dX12_recall_33 : decode cX12_recall 33 = .ok (.istore 7, 2) := by decide +kernel
theorem dX12_recall_35 : decode cX12_recall 35 = .ok (.iload 7, 2) := by decide +kernel
theorem dX12_recall_37 : decode cX12_recall 37 = .ok (.aload_n 0, 1) := by decide +kernel
theorem dX12_recall_38 : decode cX12_recall 38 = .ok (.getfield 275, 3) := by decide +kernel
theorem dX12_recall_41 : decode cX12_recall 41 = .ok (.if_icmp .ge 157, 3) := by decide +kernel
theorem dX12_recall_44 : decode cX12_recall 44 = .ok (.aload_n 0, 1) := by decide +kernel
theorem dX12_recall_45 : decode cX12_recall 45 = .ok (.getfield 178, 3) := by decide +kernel
theorem dX12_recall_48 : decode cX12_recall 48 = .ok (.iload 7, 2) := by decide +kernel
theorem dX12_recall_50 : decode cX12_recall 50 = .ok (.iaload, 1) := by decide +kernel
theorem dX12_recall_51 : decode cX12_recall 51 = .ok (.bipush 63, 2) := by decide +kernel
theorem dX12_recall_53 : decode cX12_recall 53 = .ok (.if_icmp .eq 139, 3) := by decide +kernel
theorem dX12_recall_56 : decode cX12_recall 56 = .ok (.aload_n 0, 1) := by decide +kernel
theorem dX12_recall_57 : decode cX12_recall 57 = .ok (.getfield 181, 3) := by decide +kernel
theorem dX12_recall_60 : decode cX12_recall 60 = .ok (.iload 7, 2) := by decide +kernel
theorem dX12_recall_62 : decode cX12_recall 62 = .ok (.iaload, 1) := by decide +kernel
theorem dX12_recall_63 : decode cX12_recall 63 = .ok (.bipush 10, 2) := by decide +kernel
theorem dX12_recall_65 : decode cX12_recall 65 = .ok (.idiv, 1) := by decide +kernel
theorem dX12_recall_66 : decode cX12_recall 66 = .ok (.iload_n 1, 1) := by decide +kernel
theorem dX12_recall_67 : decode cX12_recall 67 = .ok (.bipush 10, 2) := by decide +kernel
theorem dX12_recall_69 : decode cX12_recall 69 = .ok (.idiv, 1) := by decide +kernel
theorem dX12_recall_70 : decode cX12_recall 70 = .ok (.if_icmp .eq 6, 3) := by decide +kernel
theorem dX12_recall_73 : decode cX12_recall 73 = .ok (.goto 119, 3) := by decide +kernel
theorem dX12_recall_76 : decode cX12_recall 76 = .ok (.iload 4, 2) := by decide +kernel
theorem dX12_recall_78 : decode cX12_recall 78 = .ok (.ifCond .eq 44, 3) := by decide +kernel
theorem dX12_recall_81 : decode cX12_recall 81 = .ok (.aload_n 0, 1) := by decide +kernel
theorem dX12_recall_82 : decode cX12_recall 82 = .ok (.getfield 166, 3) := by decide +kernel
theorem dX12_recall_85 : decode cX12_recall 85 = .ok (.bipush 20, 2) := by decide +kernel
theorem dX12_recall_87 : decode cX12_recall 87 = .ok (.iload_n 3, 1) := by decide +kernel
theorem dX12_recall_88 : decode cX12_recall 88 = .ok (.imul, 1) := by decide +kernel
theorem dX12_recall_89 : decode cX12_recall 89 = .ok (.iload 5, 2) := by decide +kernel
theorem dX12_recall_91 : decode cX12_recall 91 = .ok (.iadd, 1) := by decide +kernel
theorem dX12_recall_92 : decode cX12_recall 92 = .ok (.aload_n 0, 1) := by decide +kernel
theorem dX12_recall_93 : decode cX12_recall 93 = .ok (.getfield 181, 3) := by decide +kernel
theorem dX12_recall_96 : decode cX12_recall 96 = .ok (.iload 7, 2) := by decide +kernel
theorem dX12_recall_98 : decode cX12_recall 98 = .ok (.iaload, 1) := by decide +kernel
theorem dX12_recall_99 : decode cX12_recall 99 = .ok (.iastore, 1) := by decide +kernel
theorem dX12_recall_100 : decode cX12_recall 100 = .ok (.aload_n 0, 1) := by decide +kernel
theorem dX12_recall_101 : decode cX12_recall 101 = .ok (.getfield 169, 3) := by decide +kernel
theorem dX12_recall_104 : decode cX12_recall 104 = .ok (.bipush 20, 2) := by decide +kernel
theorem dX12_recall_106 : decode cX12_recall 106 = .ok (.iload_n 3, 1) := by decide +kernel
theorem dX12_recall_107 : decode cX12_recall 107 = .ok (.imul, 1) := by decide +kernel
theorem dX12_recall_108 : decode cX12_recall 108 = .ok (.iload 5, 2) := by decide +kernel
theorem dX12_recall_110 : decode cX12_recall 110 = .ok (.iadd, 1) := by decide +kernel
theorem dX12_recall_111 : decode cX12_recall 111 = .ok (.aload_n 0, 1) := by decide +kernel
theorem dX12_recall_112 : decode cX12_recall 112 = .ok (.getfield 184, 3) := by decide +kernel
theorem dX12_recall_115 : decode cX12_recall 115 = .ok (.iload 7, 2) := by decide +kernel
theorem dX12_recall_117 : decode cX12_recall 117 = .ok (.iaload, 1) := by decide +kernel
theorem dX12_recall_118 : decode cX12_recall 118 = .ok (.iastore, 1) := by decide +kernel
theorem dX12_recall_119 : decode cX12_recall 119 = .ok (.goto 70, 3) := by decide +kernel
theorem dX12_recall_122 : decode cX12_recall 122 = .ok (.iload 6, 2) := by decide +kernel
theorem dX12_recall_124 : decode cX12_recall 124 = .ok (.ifCond .eq 62, 3) := by decide +kernel
theorem dX12_recall_127 : decode cX12_recall 127 = .ok (.iload 5, 2) := by decide +kernel
theorem dX12_recall_129 : decode cX12_recall 129 = .ok (.aload_n 0, 1) := by decide +kernel
theorem dX12_recall_130 : decode cX12_recall 130 = .ok (.getfield 163, 3) := by decide +kernel
theorem dX12_recall_133 : decode cX12_recall 133 = .ok (.iload_n 3, 1) := by decide +kernel
theorem dX12_recall_134 : decode cX12_recall 134 = .ok (.iaload, 1) := by decide +kernel
theorem dX12_recall_135 : decode cX12_recall 135 = .ok (.if_icmp .ge 51, 3) := by decide +kernel
theorem dX12_recall_138 : decode cX12_recall 138 = .ok (.aload_n 0, 1) := by decide +kernel
theorem dX12_recall_139 : decode cX12_recall 139 = .ok (.getfield 166, 3) := by decide +kernel
theorem dX12_recall_142 : decode cX12_recall 142 = .ok (.bipush 20, 2) := by decide +kernel
theorem dX12_recall_144 : decode cX12_recall 144 = .ok (.iload_n 3, 1) := by decide +kernel
theorem dX12_recall_145 : decode cX12_recall 145 = .ok (.imul, 1) := by decide +kernel
theorem dX12_recall_146 : decode cX12_recall 146 = .ok (.iload 5, 2) := by decide +kernel
theorem dX12_recall_148 : decode cX12_recall 148 = .ok (.iadd, 1) := by decide +kernel
theorem dX12_recall_149 : decode cX12_recall 149 = .ok (.iaload, 1) := by decide +kernel
theorem dX12_recall_150 : decode cX12_recall 150 = .ok (.aload_n 0, 1) := by decide +kernel
theorem dX12_recall_151 : decode cX12_recall 151 = .ok (.getfield 181, 3) := by decide +kernel
theorem dX12_recall_154 : decode cX12_recall 154 = .ok (.iload 7, 2) := by decide +kernel
theorem dX12_recall_156 : decode cX12_recall 156 = .ok (.iaload, 1) := by decide +kernel
theorem dX12_recall_157 : decode cX12_recall 157 = .ok (.if_icmp .ne 29, 3) := by decide +kernel
theorem dX12_recall_160 : decode cX12_recall 160 = .ok (.aload_n 0, 1) := by decide +kernel
theorem dX12_recall_161 : decode cX12_recall 161 = .ok (.getfield 169, 3) := by decide +kernel
theorem dX12_recall_164 : decode cX12_recall 164 = .ok (.bipush 20, 2) := by decide +kernel
theorem dX12_recall_166 : decode cX12_recall 166 = .ok (.iload_n 3, 1) := by decide +kernel
theorem dX12_recall_167 : decode cX12_recall 167 = .ok (.imul, 1) := by decide +kernel
theorem dX12_recall_168 : decode cX12_recall 168 = .ok (.iload 5, 2) := by decide +kernel
theorem dX12_recall_170 : decode cX12_recall 170 = .ok (.iadd, 1) := by decide +kernel
theorem dX12_recall_171 : decode cX12_recall 171 = .ok (.iaload, 1) := by decide +kernel
theorem dX12_recall_172 : decode cX12_recall 172 = .ok (.aload_n 0, 1) := by decide +kernel
theorem dX12_recall_173 : decode cX12_recall 173 = .ok (.getfield 184, 3) := by decide +kernel
theorem dX12_recall_176 : decode cX12_recall 176 = .ok (.iload 7, 2) := by decide +kernel
theorem dX12_recall_178 : decode cX12_recall 178 = .ok (.iaload, 1) := by decide +kernel
theorem dX12_recall_179 : decode cX12_recall 179 = .ok (.if_icmp .ne 7, 3) := by decide +kernel
theorem dX12_recall_182 : decode cX12_recall 182 = .ok (.iconst 1, 1) := by decide +kernel
theorem dX12_recall_183 : decode cX12_recall 183 = .ok (.goto 4, 3) := by decide +kernel
theorem dX12_recall_186 : decode cX12_recall 186 = .ok (.iconst 0, 1) := by decide +kernel
theorem dX12_recall_187 : decode cX12_recall 187 = .ok (.istore 6, 2) := by decide +kernel
theorem dX12_recall_189 : decode cX12_recall 189 = .ok (.iinc 5 1, 3) := by decide +kernel
theorem dX12_recall_192 : decode cX12_recall 192 = .ok (.iinc 7 1, 3) := by decide +kernel
theorem dX12_recall_195 : decode cX12_recall 195 = .ok (.goto (-160), 3) := by decide +kernel
theorem dX12_recall_198 : decode cX12_recall 198 = .ok (.iload 4, 2) := by decide +kernel
theorem dX12_recall_200 : decode cX12_recall 200 = .ok (.ifCond .eq 14, 3) := by decide +kernel
theorem dX12_recall_203 : decode cX12_recall 203 = .ok (.aload_n 0, 1) := by decide +kernel
theorem dX12_recall_204 : decode cX12_recall 204 = .ok (.getfield 163, 3) := by decide +kernel
theorem dX12_recall_207 : decode cX12_recall 207 = .ok (.iload_n 3, 1) := by decide +kernel
theorem dX12_recall_208 : decode cX12_recall 208 = .ok (.iload 5, 2) := by decide +kernel
theorem dX12_recall_210 : decode cX12_recall 210 = .ok (.iastore, 1) := by decide +kernel
theorem dX12_recall_211 : decode cX12_recall 211 = .ok (.goto 25, 3) := by decide +kernel
theorem dX12_recall_214 : decode cX12_recall 214 = .ok (.iload 6, 2) := by decide +kernel
theorem dX12_recall_216 : decode cX12_recall 216 = .ok (.ifCond .eq 14, 3) := by decide +kernel
theorem dX12_recall_219 : decode cX12_recall 219 = .ok (.iload 5, 2) := by decide +kernel
theorem dX12_recall_221 : decode cX12_recall 221 = .ok (.aload_n 0, 1) := by decide +kernel
theorem dX12_recall_222 : decode cX12_recall 222 = .ok (.getfield 163, 3) := by decide +kernel
theorem dX12_recall_225 : decode cX12_recall 225 = .ok (.iload_n 3, 1) := by decide +kernel
theorem dX12_recall_226 : decode cX12_recall 226 = .ok (.iaload, 1) := by decide +kernel
theorem dX12_recall_227 : decode cX12_recall 227 = .ok (.if_icmp .eq 9, 3) := by decide +kernel
theorem dX12_recall_230 : decode cX12_recall 230 = .ok (.aload_n 0, 1) := by decide +kernel
theorem dX12_recall_231 : decode cX12_recall 231 = .ok (.iconst 4, 1) := by decide +kernel
theorem dX12_recall_232 : decode cX12_recall 232 = .ok (.iload_n 2, 1) := by decide +kernel
theorem dX12_recall_233 : decode cX12_recall 233 = .ok (.invokevirtual 272, 3) := by decide +kernel
theorem dX12_recall_236 : decode cX12_recall 236 = .ok (.return_, 1) := by decide +kernel
set_option maxRecDepth 20000 in
theorem ggX12_end_X12_divisor : GoodIn wsX12_end wsX12_divisor := goodIn_r _ [19] rfl (by decide +kernel)
set_option maxRecDepth 20000 in
theorem gX12_end_X12_divisor : GoodIn wsX12_end (va_wsS RX12 291 yX12_divisor wsX12_divisor) := goodIn_app (goodIn_r _ [16, 17, 18] rfl (by decide +kernel)) ggX12_end_X12_divisor
theorem dX12_end_0 : decode cX12_end 0 = .ok (.sipush 400, 3) := by decide +kernel
theorem dX12_end_3 : decode cX12_end 3 = .ok (.aload_n 0, 1) := by decide +kernel
theorem dX12_end_4 : decode cX12_end 4 = .ok (.getfield 172, 3) := by decide +kernel
theorem dX12_end_7 : decode cX12_end 7 = .ok (.imul, 1) := by decide +kernel
theorem dX12_end_8 : decode cX12_end 8 = .ok (.aload_n 0, 1) := by decide +kernel
theorem dX12_end_9 : decode cX12_end 9 = .ok (.getfield 117, 3) := by decide +kernel
theorem dX12_end_12 : decode cX12_end 12 = .ok (.aload_n 0, 1) := by decide +kernel
theorem dX12_end_13 : decode cX12_end 13 = .ok (.getfield 172, 3) := by decide +kernel
theorem dX12_end_16 : decode cX12_end 16 = .ok (.iaload, 1) := by decide +kernel
theorem dX12_end_17 : decode cX12_end 17 = .ok (.iadd, 1) := by decide +kernel
theorem dX12_end_18 : decode cX12_end 18 = .ok (.istore 5, 2) := by decide +kernel
theorem dX12_end_20 : decode cX12_end 20 = .ok (.lload_n 1, 1) := by decide +kernel
theorem dX12_end_21 : decode cX12_end 21 = .ok (.aload_n 0, 1) := by decide +kernel
theorem dX12_end_22 : decode cX12_end 22 = .ok (.getfield 265, 3) := by decide +kernel
theorem dX12_end_25 : decode cX12_end 25 = .ok (.lmul, 1) := by decide +kernel
theorem dX12_end_26 : decode cX12_end 26 = .ok (.lstore 6, 2) := by decide +kernel
theorem dX12_end_28 : decode cX12_end 28 = .ok (.lload_n 3, 1) := by decide +kernel
theorem dX12_end_29 : decode cX12_end 29 = .ok (.aload_n 0, 1) := by decide +kernel
theorem dX12_end_30 : decode cX12_end 30 = .ok (.getfield 269, 3) := by decide +kernel
theorem dX12_end_33 : decode cX12_end 33 = .ok (.lmul, 1) := by decide +kernel
theorem dX12_end_34 : decode cX12_end 34 = .ok (.lstore 8, 2) := by decide +kernel
theorem dX12_end_36 : decode cX12_end 36 = .ok (.lload 6, 2) := by decide +kernel
theorem dX12_end_38 : decode cX12_end 38 = .ok (.lload 8, 2) := by decide +kernel
theorem dX12_end_40 : decode cX12_end 40 = .ok (.invokestatic 291, 3) := by decide +kernel
theorem dX12_end_43 : decode cX12_end 43 = .ok (.lstore 10, 2) := by decide +kernel
theorem dX12_end_45 : decode cX12_end 45 = .ok (.aload_n 0, 1) := by decide +kernel
theorem dX12_end_46 : decode cX12_end 46 = .ok (.getfield 126, 3) := by decide +kernel
theorem dX12_end_49 : decode cX12_end 49 = .ok (.iload 5, 2) := by decide +kernel
theorem dX12_end_51 : decode cX12_end 51 = .ok (.lload 6, 2) := by decide +kernel
theorem dX12_end_53 : decode cX12_end 53 = .ok (.lload 10, 2) := by decide +kernel
theorem dX12_end_55 : decode cX12_end 55 = .ok (.ldiv, 1) := by decide +kernel
theorem dX12_end_56 : decode cX12_end 56 = .ok (.lastore, 1) := by decide +kernel
theorem dX12_end_57 : decode cX12_end 57 = .ok (.aload_n 0, 1) := by decide +kernel
theorem dX12_end_58 : decode cX12_end 58 = .ok (.getfield 130, 3) := by decide +kernel
theorem dX12_end_61 : decode cX12_end 61 = .ok (.iload 5, 2) := by decide +kernel
theorem dX12_end_63 : decode cX12_end 63 = .ok (.lload 8, 2) := by decide +kernel
theorem dX12_end_65 : decode cX12_end 65 = .ok (.lload 10, 2) := by decide +kernel
theorem dX12_end_67 : decode cX12_end 67 = .ok (.ldiv, 1) := by decide +kernel
theorem dX12_end_68 : decode cX12_end 68 = .ok (.lastore, 1) := by decide +kernel
theorem dX12_end_69 : decode cX12_end 69 = .ok (.aload_n 0, 1) := by decide +kernel
theorem dX12_end_70 : decode cX12_end 70 = .ok (.getfield 136, 3) := by decide +kernel
theorem dX12_end_73 : decode cX12_end 73 = .ok (.iload 5, 2) := by decide +kernel
theorem dX12_end_75 : decode cX12_end 75 = .ok (.sipush 8000, 3) := by decide +kernel
theorem dX12_end_78 : decode cX12_end 78 = .ok (.aload_n 0, 1) := by decide +kernel
theorem dX12_end_79 : decode cX12_end 79 = .ok (.getfield 172, 3) := by decide +kernel
theorem dX12_end_82 : decode cX12_end 82 = .ok (.imul, 1) := by decide +kernel
theorem dX12_end_83 : decode cX12_end 83 = .ok (.aload_n 0, 1) := by decide +kernel
theorem dX12_end_84 : decode cX12_end 84 = .ok (.getfield 148, 3) := by decide +kernel
theorem dX12_end_87 : decode cX12_end 87 = .ok (.aload_n 0, 1) := by decide +kernel
theorem dX12_end_88 : decode cX12_end 88 = .ok (.getfield 172, 3) := by decide +kernel
theorem dX12_end_91 : decode cX12_end 91 = .ok (.iaload, 1) := by decide +kernel
theorem dX12_end_92 : decode cX12_end 92 = .ok (.iadd, 1) := by decide +kernel
theorem dX12_end_93 : decode cX12_end 93 = .ok (.iastore, 1) := by decide +kernel
theorem dX12_end_94 : decode cX12_end 94 = .ok (.iconst 0, 1) := by decide +kernel
theorem dX12_end_95 : decode cX12_end 95 = .ok (.istore 12, 2) := by decide +kernel
theorem dX12_end_97 : decode cX12_end 97 = .ok (.iload 12, 2) := by decide +kernel
theorem dX12_end_99 : decode cX12_end 99 = .ok (.aload_n 0, 1) := by decide +kernel
theorem dX12_end_100 : decode cX12_end 100 = .ok (.getfield 275, 3) := by decide +kernel
theorem dX12_end_103 : decode cX12_end 103 = .ok (.if_icmp .ge 94, 3) := by decide +kernel
theorem dX12_end_106 : decode cX12_end 106 = .ok (.aload_n 0, 1) := by decide +kernel
theorem dX12_end_107 : decode cX12_end 107 = .ok (.getfield 178, 3) := by decide +kernel
theorem dX12_end_110 : decode cX12_end 110 = .ok (.iload 12, 2) := by decide +kernel
theorem dX12_end_112 : decode cX12_end 112 = .ok (.iaload, 1) := by decide +kernel
theorem dX12_end_113 : decode cX12_end 113 = .ok (.bipush 63, 2) := by decide +kernel
theorem dX12_end_115 : decode cX12_end 115 = .ok (.if_icmp .eq 76, 3) := by decide +kernel
theorem dX12_end_118 : decode cX12_end 118 = .ok (.aload_n 0, 1) := by decide +kernel
theorem dX12_end_119 : decode cX12_end 119 = .ok (.getfield 142, 3) := by decide +kernel
theorem dX12_end_122 : decode cX12_end 122 = .ok (.sipush 8000, 3) := by decide +kernel
theorem dX12_end_125 : decode cX12_end 125 = .ok (.aload_n 0, 1) := by decide +kernel
theorem dX12_end_126 : decode cX12_end 126 = .ok (.getfield 172, 3) := by decide +kernel
theorem dX12_end_129 : decode cX12_end 129 = .ok (.imul, 1) := by decide +kernel
theorem dX12_end_130 : decode cX12_end 130 = .ok (.aload_n 0, 1) := by decide +kernel
theorem dX12_end_131 : decode cX12_end 131 = .ok (.getfield 148, 3) := by decide +kernel
theorem dX12_end_134 : decode cX12_end 134 = .ok (.aload_n 0, 1) := by decide +kernel
theorem dX12_end_135 : decode cX12_end 135 = .ok (.getfield 172, 3) := by decide +kernel
theorem dX12_end_138 : decode cX12_end 138 = .ok (.iaload, 1) := by decide +kernel
theorem dX12_end_139 : decode cX12_end 139 = .ok (.iadd, 1) := by decide +kernel
theorem dX12_end_140 : decode cX12_end 140 = .ok (.aload_n 0, 1) := by decide +kernel
theorem dX12_end_141 : decode cX12_end 141 = .ok (.getfield 181, 3) := by decide +kernel
theorem dX12_end_144 : decode cX12_end 144 = .ok (.iload 12, 2) := by decide +kernel
theorem dX12_end_146 : decode cX12_end 146 = .ok (.iaload, 1) := by decide +kernel
theorem dX12_end_147 : decode cX12_end 147 = .ok (.iastore, 1) := by decide +kernel
theorem dX12_end_148 : decode cX12_end 148 = .ok (.aload_n 0, 1) := by decide +kernel
theorem dX12_end_149 : decode cX12_end 149 = .ok (.getfield 145, 3) := by decide +kernel
theorem dX12_end_152 : decode cX12_end 152 = .ok (.sipush 8000, 3) := by decide +kernel
theorem dX12_end_155 : decode cX12_end 155 = .ok (.aload_n 0, 1) := by decide +kernel
theorem dX12_end_156 : decode cX12_end 156 = .ok (.getfield 172, 3) := by decide +kernel
theorem dX12_end_159 : decode cX12_end 159 = .ok (.imul, 1) := by decide +kernel
theorem dX12_end_160 : decode cX12_end 160 = .ok (.aload_n 0, 1) := by decide +kernel
theorem dX12_end_161 : decode cX12_end 161 = .ok (.getfield 148, 3) := by decide +kernel
theorem dX12_end_164 : decode cX12_end 164 = .ok (.aload_n 0, 1) := by decide +kernel
theorem dX12_end_165 : decode cX12_end 165 = .ok (.getfield 172, 3) := by decide +kernel
theorem dX12_end_168 : decode cX12_end 168 = .ok (.iaload, 1) := by decide +kernel
theorem dX12_end_169 : decode cX12_end 169 = .ok (.iadd, 1) := by decide +kernel
theorem dX12_end_170 : decode cX12_end 170 = .ok (.aload_n 0, 1) := by decide +kernel
theorem dX12_end_171 : decode cX12_end 171 = .ok (.getfield 184, 3) := by decide +kernel
theorem dX12_end_174 : decode cX12_end 174 = .ok (.iload 12, 2) := by decide +kernel
theorem dX12_end_176 : decode cX12_end 176 = .ok (.iaload, 1) := by decide +kernel
theorem dX12_end_177 : decode cX12_end 177 = .ok (.iastore, 1) := by decide +kernel
theorem dX12_end_178 : decode cX12_end 178 = .ok (.aload_n 0, 1) := by decide +kernel
theorem dX12_end_179 : decode cX12_end 179 = .ok (.getfield 148, 3) := by decide +kernel
theorem dX12_end_182 : decode cX12_end 182 = .ok (.aload_n 0, 1) := by decide +kernel
theorem dX12_end_183 : decode cX12_end 183 = .ok (.getfield 172, 3) := by decide +kernel
theorem dX12_end_186 : decode cX12_end 186 = .ok (.dup2, 1) := by decide +kernel
theorem dX12_end_187 : decode cX12_end 187 = .ok (.iaload, 1) := by decide +kernel
theorem dX12_end_188 : decode cX12_end 188 = .ok (.iconst 1, 1) := by decide +kernel
theorem dX12_end_189 : decode cX12_end 189 = .ok (.iadd, 1) := by decide +kernel
theorem dX12_end_190 : decode cX12_end 190 = .ok (.iastore, 1) := by decide +kernel
theorem dX12_end_191 : decode cX12_end 191 = .ok (.iinc 12 1, 3) := by decide +kernel
theorem dX12_end_194 : decode cX12_end 194 = .ok (.goto (-97), 3) := by decide +kernel
theorem dX12_end_197 : decode cX12_end 197 = .ok (.aload_n 0, 1) := by decide +kernel
theorem dX12_end_198 : decode cX12_end 198 = .ok (.getfield 139, 3) := by decide +kernel
theorem dX12_end_201 : decode cX12_end 201 = .ok (.iload 5, 2) := by decide +kernel
theorem dX12_end_203 : decode cX12_end 203 = .ok (.sipush 8000, 3) := by decide +kernel
theorem dX12_end_206 : decode cX12_end 206 = .ok (.aload_n 0, 1) := by decide +kernel
theorem dX12_end_207 : decode cX12_end 207 = .ok (.getfield 172, 3) := by decide +kernel
theorem dX12_end_210 : decode cX12_end 210 = .ok (.imul, 1) := by decide +kernel
theorem dX12_end_211 : decode cX12_end 211 = .ok (.aload_n 0, 1) := by decide +kernel
theorem dX12_end_212 : decode cX12_end 212 = .ok (.getfield 148, 3) := by decide +kernel
theorem dX12_end_215 : decode cX12_end 215 = .ok (.aload_n 0, 1) := by decide +kernel
theorem dX12_end_216 : decode cX12_end 216 = .ok (.getfield 172, 3) := by decide +kernel
theorem dX12_end_219 : decode cX12_end 219 = .ok (.iaload, 1) := by decide +kernel
theorem dX12_end_220 : decode cX12_end 220 = .ok (.iadd, 1) := by decide +kernel
theorem dX12_end_221 : decode cX12_end 221 = .ok (.aload_n 0, 1) := by decide +kernel
theorem dX12_end_222 : decode cX12_end 222 = .ok (.getfield 136, 3) := by decide +kernel
theorem dX12_end_225 : decode cX12_end 225 = .ok (.iload 5, 2) := by decide +kernel
theorem dX12_end_227 : decode cX12_end 227 = .ok (.iaload, 1) := by decide +kernel
theorem dX12_end_228 : decode cX12_end 228 = .ok (.isub, 1) := by decide +kernel
theorem dX12_end_229 : decode cX12_end 229 = .ok (.iastore, 1) := by decide +kernel
theorem dX12_end_230 : decode cX12_end 230 = .ok (.aload_n 0, 1) := by decide +kernel
theorem dX12_end_231 : decode cX12_end 231 = .ok (.getfield 117, 3) := by decide +kernel
theorem dX12_end_234 : decode cX12_end 234 = .ok (.aload_n 0, 1) := by decide +kernel
