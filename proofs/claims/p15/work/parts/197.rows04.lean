set_option maxRecDepth 20000 in
theorem gX12_cut_X12_isDigit : GoodIn wsX12_cut (va_wsS RX12 241 yX12_isDigit wsX12_isDigit) := goodIn_app (goodIn_r _ [11, 12, 9] rfl (by decide +kernel)) ggX12_cut_X12_isDigit
theorem dX12_cut_0 : decode cX12_cut 0 = .ok (.aload_n 0, 1) := by decide +kernel
theorem dX12_cut_1 : decode cX12_cut 1 = .ok (.iconst 0, 1) := by decide +kernel
theorem dX12_cut_2 : decode cX12_cut 2 = .ok (.putfield 235, 3) := by decide +kernel
theorem dX12_cut_5 : decode cX12_cut 5 = .ok (.iconst 1, 1) := by decide +kernel
theorem dX12_cut_6 : decode cX12_cut 6 = .ok (.istore_n 1, 1) := by decide +kernel
theorem dX12_cut_7 : decode cX12_cut 7 = .ok (.iconst 0, 1) := by decide +kernel
theorem dX12_cut_8 : decode cX12_cut 8 = .ok (.istore_n 2, 1) := by decide +kernel
theorem dX12_cut_9 : decode cX12_cut 9 = .ok (.iload_n 1, 1) := by decide +kernel
theorem dX12_cut_10 : decode cX12_cut 10 = .ok (.ifCond .eq 233, 3) := by decide +kernel
theorem dX12_cut_13 : decode cX12_cut 13 = .ok (.iload_n 2, 1) := by decide +kernel
theorem dX12_cut_14 : decode cX12_cut 14 = .ok (.aload_n 0, 1) := by decide +kernel
theorem dX12_cut_15 : decode cX12_cut 15 = .ok (.getfield 226, 3) := by decide +kernel
theorem dX12_cut_18 : decode cX12_cut 18 = .ok (.if_icmp .gt 225, 3) := by decide +kernel
theorem dX12_cut_21 : decode cX12_cut 21 = .ok (.iload_n 2, 1) := by decide +kernel
theorem dX12_cut_22 : decode cX12_cut 22 = .ok (.aload_n 0, 1) := by decide +kernel
theorem dX12_cut_23 : decode cX12_cut 23 = .ok (.getfield 226, 3) := by decide +kernel
theorem dX12_cut_26 : decode cX12_cut 26 = .ok (.if_icmp .ge 12, 3) := by decide +kernel
theorem dX12_cut_29 : decode cX12_cut 29 = .ok (.aload_n 0, 1) := by decide +kernel
theorem dX12_cut_30 : decode cX12_cut 30 = .ok (.getfield 94, 3) := by decide +kernel
theorem dX12_cut_33 : decode cX12_cut 33 = .ok (.iload_n 2, 1) := by decide +kernel
theorem dX12_cut_34 : decode cX12_cut 34 = .ok (.baload, 1) := by decide +kernel
theorem dX12_cut_35 : decode cX12_cut 35 = .ok (.goto 4, 3) := by decide +kernel
theorem dX12_cut_38 : decode cX12_cut 38 = .ok (.iconst 0, 1) := by decide +kernel
theorem dX12_cut_39 : decode cX12_cut 39 = .ok (.istore_n 3, 1) := by decide +kernel
theorem dX12_cut_40 : decode cX12_cut 40 = .ok (.iload_n 2, 1) := by decide +kernel
theorem dX12_cut_41 : decode cX12_cut 41 = .ok (.iconst 1, 1) := by decide +kernel
theorem dX12_cut_42 : decode cX12_cut 42 = .ok (.iadd, 1) := by decide +kernel
theorem dX12_cut_43 : decode cX12_cut 43 = .ok (.istore 4, 2) := by decide +kernel
theorem dX12_cut_45 : decode cX12_cut 45 = .ok (.iload_n 3, 1) := by decide +kernel
theorem dX12_cut_46 : decode cX12_cut 46 = .ok (.bipush 32, 2) := by decide +kernel
theorem dX12_cut_48 : decode cX12_cut 48 = .ok (.if_icmp .eq 189, 3) := by decide +kernel
theorem dX12_cut_51 : decode cX12_cut 51 = .ok (.aload_n 0, 1) := by decide +kernel
theorem dX12_cut_52 : decode cX12_cut 52 = .ok (.getfield 102, 3) := by decide +kernel
theorem dX12_cut_55 : decode cX12_cut 55 = .ok (.aload_n 0, 1) := by decide +kernel
theorem dX12_cut_56 : decode cX12_cut 56 = .ok (.getfield 235, 3) := by decide +kernel
theorem dX12_cut_59 : decode cX12_cut 59 = .ok (.iload_n 2, 1) := by decide +kernel
theorem dX12_cut_60 : decode cX12_cut 60 = .ok (.aload_n 0, 1) := by decide +kernel
theorem dX12_cut_61 : decode cX12_cut 61 = .ok (.getfield 226, 3) := by decide +kernel
theorem dX12_cut_64 : decode cX12_cut 64 = .ok (.if_icmp .ne 7, 3) := by decide +kernel
theorem dX12_cut_67 : decode cX12_cut 67 = .ok (.iconst 0, 1) := by decide +kernel
theorem dX12_cut_68 : decode cX12_cut 68 = .ok (.goto 15, 3) := by decide +kernel
theorem dX12_cut_71 : decode cX12_cut 71 = .ok (.iload_n 3, 1) := by decide +kernel
theorem dX12_cut_72 : decode cX12_cut 72 = .ok (.invokestatic 238, 3) := by decide +kernel
theorem dX12_cut_75 : decode cX12_cut 75 = .ok (.ifCond .eq 7, 3) := by decide +kernel
theorem dX12_cut_78 : decode cX12_cut 78 = .ok (.iload_n 3, 1) := by decide +kernel
theorem dX12_cut_79 : decode cX12_cut 79 = .ok (.goto 4, 3) := by decide +kernel
theorem dX12_cut_82 : decode cX12_cut 82 = .ok (.iconst 2, 1) := by decide +kernel
theorem dX12_cut_83 : decode cX12_cut 83 = .ok (.iastore, 1) := by decide +kernel
theorem dX12_cut_84 : decode cX12_cut 84 = .ok (.aload_n 0, 1) := by decide +kernel
theorem dX12_cut_85 : decode cX12_cut 85 = .ok (.getfield 105, 3) := by decide +kernel
theorem dX12_cut_88 : decode cX12_cut 88 = .ok (.aload_n 0, 1) := by decide +kernel
theorem dX12_cut_89 : decode cX12_cut 89 = .ok (.getfield 235, 3) := by decide +kernel
theorem dX12_cut_92 : decode cX12_cut 92 = .ok (.iload_n 2, 1) := by decide +kernel
theorem dX12_cut_93 : decode cX12_cut 93 = .ok (.iastore, 1) := by decide +kernel
theorem dX12_cut_94 : decode cX12_cut 94 = .ok (.aload_n 0, 1) := by decide +kernel
theorem dX12_cut_95 : decode cX12_cut 95 = .ok (.getfield 108, 3) := by decide +kernel
theorem dX12_cut_98 : decode cX12_cut 98 = .ok (.aload_n 0, 1) := by decide +kernel
theorem dX12_cut_99 : decode cX12_cut 99 = .ok (.getfield 235, 3) := by decide +kernel
theorem dX12_cut_102 : decode cX12_cut 102 = .ok (.iconst 0, 1) := by decide +kernel
theorem dX12_cut_103 : decode cX12_cut 103 = .ok (.iastore, 1) := by decide +kernel
theorem dX12_cut_104 : decode cX12_cut 104 = .ok (.iload_n 3, 1) := by decide +kernel
theorem dX12_cut_105 : decode cX12_cut 105 = .ok (.invokestatic 241, 3) := by decide +kernel
theorem dX12_cut_108 : decode cX12_cut 108 = .ok (.ifCond .eq 100, 3) := by decide +kernel
theorem dX12_cut_111 : decode cX12_cut 111 = .ok (.iload_n 2, 1) := by decide +kernel
theorem dX12_cut_112 : decode cX12_cut 112 = .ok (.istore 4, 2) := by decide +kernel
theorem dX12_cut_114 : decode cX12_cut 114 = .ok (.iload 4, 2) := by decide +kernel
theorem dX12_cut_116 : decode cX12_cut 116 = .ok (.aload_n 0, 1) := by decide +kernel
theorem dX12_cut_117 : decode cX12_cut 117 = .ok (.getfield 226, 3) := by decide +kernel
theorem dX12_cut_120 : decode cX12_cut 120 = .ok (.if_icmp .ge 66, 3) := by decide +kernel
theorem dX12_cut_123 : decode cX12_cut 123 = .ok (.aload_n 0, 1) := by decide +kernel
theorem dX12_cut_124 : decode cX12_cut 124 = .ok (.getfield 94, 3) := by decide +kernel
theorem dX12_cut_127 : decode cX12_cut 127 = .ok (.iload 4, 2) := by decide +kernel
theorem dX12_cut_129 : decode cX12_cut 129 = .ok (.baload, 1) := by decide +kernel
theorem dX12_cut_130 : decode cX12_cut 130 = .ok (.invokestatic 241, 3) := by decide +kernel
theorem dX12_cut_133 : decode cX12_cut 133 = .ok (.ifCond .eq 53, 3) := by decide +kernel
theorem dX12_cut_136 : decode cX12_cut 136 = .ok (.aload_n 0, 1) := by decide +kernel
theorem dX12_cut_137 : decode cX12_cut 137 = .ok (.getfield 108, 3) := by decide +kernel
theorem dX12_cut_140 : decode cX12_cut 140 = .ok (.aload_n 0, 1) := by decide +kernel
theorem dX12_cut_141 : decode cX12_cut 141 = .ok (.getfield 235, 3) := by decide +kernel
theorem dX12_cut_144 : decode cX12_cut 144 = .ok (.iload 4, 2) := by decide +kernel
theorem dX12_cut_146 : decode cX12_cut 146 = .ok (.iload_n 2, 1) := by decide +kernel
theorem dX12_cut_147 : decode cX12_cut 147 = .ok (.isub, 1) := by decide +kernel
theorem dX12_cut_148 : decode cX12_cut 148 = .ok (.iconst 4, 1) := by decide +kernel
theorem dX12_cut_149 : decode cX12_cut 149 = .ok (.if_icmp .ge 29, 3) := by decide +kernel
theorem dX12_cut_152 : decode cX12_cut 152 = .ok (.bipush 10, 2) := by decide +kernel
theorem dX12_cut_154 : decode cX12_cut 154 = .ok (.aload_n 0, 1) := by decide +kernel
theorem dX12_cut_155 : decode cX12_cut 155 = .ok (.getfield 108, 3) := by decide +kernel
theorem dX12_cut_158 : decode cX12_cut 158 = .ok (.aload_n 0, 1) := by decide +kernel
theorem dX12_cut_159 : decode cX12_cut 159 = .ok (.getfield 235, 3) := by decide +kernel
theorem dX12_cut_162 : decode cX12_cut 162 = .ok (.iaload, 1) := by decide +kernel
theorem dX12_cut_163 : decode cX12_cut 163 = .ok (.imul, 1) := by decide +kernel
theorem dX12_cut_164 : decode cX12_cut 164 = .ok (.aload_n 0, 1) := by decide +kernel
theorem dX12_cut_165 : decode cX12_cut 165 = .ok (.getfield 94, 3) := by decide +kernel
theorem dX12_cut_168 : decode cX12_cut 168 = .ok (.iload 4, 2) := by decide +kernel
theorem dX12_cut_170 : decode cX12_cut 170 = .ok (.baload, 1) := by decide +kernel
theorem dX12_cut_171 : decode cX12_cut 171 = .ok (.iadd, 1) := by decide +kernel
theorem dX12_cut_172 : decode cX12_cut 172 = .ok (.bipush 48, 2) := by decide +kernel
theorem dX12_cut_174 : decode cX12_cut 174 = .ok (.isub, 1) := by decide +kernel
theorem dX12_cut_175 : decode cX12_cut 175 = .ok (.goto 4, 3) := by decide +kernel
theorem dX12_cut_178 : decode cX12_cut 178 = .ok (.iconst 0, 1) := by decide +kernel
theorem dX12_cut_179 : decode cX12_cut 179 = .ok (.iastore, 1) := by decide +kernel
theorem dX12_cut_180 : decode cX12_cut 180 = .ok (.iinc 4 1, 3) := by decide +kernel
theorem dX12_cut_183 : decode cX12_cut 183 = .ok (.goto (-69), 3) := by decide +kernel
theorem dX12_cut_186 : decode cX12_cut 186 = .ok (.aload_n 0, 1) := by decide +kernel
theorem dX12_cut_187 : decode cX12_cut 187 = .ok (.getfield 102, 3) := by decide +kernel
theorem dX12_cut_190 : decode cX12_cut 190 = .ok (.aload_n 0, 1) := by decide +kernel
theorem dX12_cut_191 : decode cX12_cut 191 = .ok (.getfield 235, 3) := by decide +kernel
theorem dX12_cut_194 : decode cX12_cut 194 = .ok (.iload 4, 2) := by decide +kernel
theorem dX12_cut_196 : decode cX12_cut 196 = .ok (.iload_n 2, 1) := by decide +kernel
theorem dX12_cut_197 : decode cX12_cut 197 = .ok (.isub, 1) := by decide +kernel
theorem dX12_cut_198 : decode cX12_cut 198 = .ok (.iconst 4, 1) := by decide +kernel
theorem dX12_cut_199 : decode cX12_cut 199 = .ok (.if_icmp .le 7, 3) := by decide +kernel
theorem dX12_cut_202 : decode cX12_cut 202 = .ok (.iconst 2, 1) := by decide +kernel
theorem dX12_cut_203 : decode cX12_cut 203 = .ok (.goto 4, 3) := by decide +kernel
theorem dX12_cut_206 : decode cX12_cut 206 = .ok (.iconst 1, 1) := by decide +kernel
theorem dX12_cut_207 : decode cX12_cut 207 = .ok (.iastore, 1) := by decide +kernel
theorem dX12_cut_208 : decode cX12_cut 208 = .ok (.aload_n 0, 1) := by decide +kernel
theorem dX12_cut_209 : decode cX12_cut 209 = .ok (.getfield 102, 3) := by decide +kernel
theorem dX12_cut_212 : decode cX12_cut 212 = .ok (.aload_n 0, 1) := by decide +kernel
theorem dX12_cut_213 : decode cX12_cut 213 = .ok (.getfield 235, 3) := by decide +kernel
theorem dX12_cut_216 : decode cX12_cut 216 = .ok (.iaload, 1) := by decide +kernel
theorem dX12_cut_217 : decode cX12_cut 217 = .ok (.iconst 2, 1) := by decide +kernel
theorem dX12_cut_218 : decode cX12_cut 218 = .ok (.if_icmp .eq 7, 3) := by decide +kernel
theorem dX12_cut_221 : decode cX12_cut 221 = .ok (.iconst 1, 1) := by decide +kernel
theorem dX12_cut_222 : decode cX12_cut 222 = .ok (.goto 4, 3) := by decide +kernel
theorem dX12_cut_225 : decode cX12_cut 225 = .ok (.iconst 0, 1) := by decide +kernel
theorem dX12_cut_226 : decode cX12_cut 226 = .ok (.istore_n 1, 1) := by decide +kernel
theorem dX12_cut_227 : decode cX12_cut 227 = .ok (.aload_n 0, 1) := by decide +kernel
theorem dX12_cut_228 : decode cX12_cut 228 = .ok (.dup, 1) := by decide +kernel
theorem dX12_cut_229 : decode cX12_cut 229 = .ok (.getfield 235, 3) := by decide +kernel
theorem dX12_cut_232 : decode cX12_cut 232 = .ok (.iconst 1, 1) := by decide +kernel
theorem dX12_cut_233 : decode cX12_cut 233 = .ok (.iadd, 1) := by decide +kernel
theorem dX12_cut_234 : decode cX12_cut 234 = .ok (.putfield 235, 3) := by decide +kernel
theorem dX12_cut_237 : decode cX12_cut 237 = .ok (.iload 4, 2) := by decide +kernel
theorem dX12_cut_239 : decode cX12_cut 239 = .ok (.istore_n 2, 1) := by decide +kernel
theorem dX12_cut_240 : decode cX12_cut 240 = .ok (.goto (-231), 3) := by decide +kernel
theorem dX12_cut_243 : decode cX12_cut 243 = .ok (.return_, 1) := by decide +kernel
theorem dX12_want_0 : decode cX12_want 0 = .ok (.aload_n 0, 1) := by decide +kernel
theorem dX12_want_1 : decode cX12_want 1 = .ok (.getfield 111, 3) := by decide +kernel
theorem dX12_want_4 : decode cX12_want 4 = .ok (.aload_n 0, 1) := by decide +kernel
theorem dX12_want_5 : decode cX12_want 5 = .ok (.getfield 244, 3) := by decide +kernel
theorem dX12_want_8 : decode cX12_want 8 = .ok (.iload_n 1, 1) := by decide +kernel
theorem dX12_want_9 : decode cX12_want 9 = .ok (.iastore, 1) := by decide +kernel
theorem dX12_want_10 : decode cX12_want 10 = .ok (.aload_n 0, 1) := by decide +kernel
theorem dX12_want_11 : decode cX12_want 11 = .ok (.dup, 1) := by decide +kernel
theorem dX12_want_12 : decode cX12_want 12 = .ok (.getfield 244, 3) := by decide +kernel
theorem dX12_want_15 : decode cX12_want 15 = .ok (.iconst 1, 1) := by decide +kernel
theorem dX12_want_16 : decode cX12_want 16 = .ok (.iadd, 1) := by decide +kernel
theorem dX12_want_17 : decode cX12_want 17 = .ok (.putfield 244, 3) := by decide +kernel
theorem dX12_want_20 : decode cX12_want 20 = .ok (.return_, 1) := by decide +kernel
set_option maxRecDepth 20000 in
theorem ggX12_bad_X12_want : GoodIn wsX12_bad wsX12_want := goodIn_s _ [(8, 1), (2, 1), (1, 1), (17, 58)] rfl (by decide +kernel)
set_option maxRecDepth 20000 in
theorem gX12_bad_X12_want : GoodIn wsX12_bad (wsV RX12 247 RX12 yX12_want wsX12_want) := goodIn_app (goodIn_r _ [4, 5, 6, 7] rfl (by decide +kernel)) ggX12_bad_X12_want
set_option maxRecDepth 20000 in
theorem ggX12_bad_X12_node : GoodIn wsX12_bad wsX12_node := goodIn_s _ [(12, 1), (4, 5), (2, 1), (1, 1), (17, 58)] rfl (by decide +kernel)
set_option maxRecDepth 20000 in
theorem gX12_bad_X12_node : GoodIn wsX12_bad (wsV RX12 250 RX12 yX12_node wsX12_node) := goodIn_app (goodIn_r _ [9, 10, 11, 7] rfl (by decide +kernel)) ggX12_bad_X12_node
set_option maxRecDepth 20000 in
theorem ggX12_bad_X12_part : GoodIn wsX12_bad wsX12_part := goodIn_s _ [(16, 1), (4, 5), (2, 1), (1, 1), (17, 58)] rfl (by decide +kernel)
set_option maxRecDepth 20000 in
theorem gX12_bad_X12_part : GoodIn wsX12_bad (wsV RX12 253 RX12 yX12_part wsX12_part) := goodIn_app (goodIn_r _ [13, 14, 15, 7] rfl (by decide +kernel)) ggX12_bad_X12_part
theorem dX12_bad_0 : decode cX12_bad 0 = .ok (.aload_n 0, 1) := by decide +kernel
theorem dX12_bad_1 : decode cX12_bad 1 = .ok (.iconst 0, 1) := by decide +kernel
theorem dX12_bad_2 : decode cX12_bad 2 = .ok (.putfield 244, 3) := by decide +kernel
theorem dX12_bad_5 : decode cX12_bad 5 = .ok (.aload_n 0, 1) := by decide +kernel
theorem dX12_bad_6 : decode cX12_bad 6 = .ok (.iconst 0, 1) := by decide +kernel
theorem dX12_bad_7 : decode cX12_bad 7 = .ok (.invokevirtual 247, 3) := by decide +kernel
theorem dX12_bad_10 : decode cX12_bad 10 = .ok (.aload_n 0, 1) := by decide +kernel
theorem dX12_bad_11 : decode cX12_bad 11 = .ok (.sipush 300, 3) := by decide +kernel
theorem dX12_bad_14 : decode cX12_bad 14 = .ok (.invokevirtual 247, 3) := by decide +kernel
theorem dX12_bad_17 : decode cX12_bad 17 = .ok (.iconst 0, 1) := by decide +kernel
theorem dX12_bad_18 : decode cX12_bad 18 = .ok (.istore_n 1, 1) := by decide +kernel
theorem dX12_bad_19 : decode cX12_bad 19 = .ok (.aload_n 0, 1) := by decide +kernel
theorem dX12_bad_20 : decode cX12_bad 20 = .ok (.getfield 244, 3) := by decide +kernel
theorem dX12_bad_23 : decode cX12_bad 23 = .ok (.ifCond .le 85, 3) := by decide +kernel
theorem dX12_bad_26 : decode cX12_bad 26 = .ok (.aload_n 0, 1) := by decide +kernel
theorem dX12_bad_27 : decode cX12_bad 27 = .ok (.dup, 1) := by decide +kernel
theorem dX12_bad_28 : decode cX12_bad 28 = .ok (.getfield 244, 3) := by decide +kernel
theorem dX12_bad_31 : decode cX12_bad 31 = .ok (.iconst 1, 1) := by decide +kernel
theorem dX12_bad_32 : decode cX12_bad 32 = .ok (.isub, 1) := by decide +kernel
theorem dX12_bad_33 : decode cX12_bad 33 = .ok (.putfield 244, 3) := by decide +kernel
theorem dX12_bad_36 : decode cX12_bad 36 = .ok (.aload_n 0, 1) := by decide +kernel
theorem dX12_bad_37 : decode cX12_bad 37 = .ok (.getfield 111, 3) := by decide +kernel
theorem dX12_bad_40 : decode cX12_bad 40 = .ok (.aload_n 0, 1) := by decide +kernel
theorem dX12_bad_41 : decode cX12_bad 41 = .ok (.getfield 244, 3) := by decide +kernel
theorem dX12_bad_44 : decode cX12_bad 44 = .ok (.iaload, 1) := by decide +kernel
theorem dX12_bad_45 : decode cX12_bad 45 = .ok (.istore_n 2, 1) := by decide +kernel
theorem dX12_bad_46 : decode cX12_bad 46 = .ok (.aload_n 0, 1) := by decide +kernel
theorem dX12_bad_47 : decode cX12_bad 47 = .ok (.getfield 102, 3) := by decide +kernel
theorem dX12_bad_50 : decode cX12_bad 50 = .ok (.iload_n 1, 1) := by decide +kernel
theorem dX12_bad_51 : decode cX12_bad 51 = .ok (.iaload, 1) := by decide +kernel
theorem dX12_bad_52 : decode cX12_bad 52 = .ok (.istore_n 3, 1) := by decide +kernel
theorem dX12_bad_53 : decode cX12_bad 53 = .ok (.iload_n 2, 1) := by decide +kernel
theorem dX12_bad_54 : decode cX12_bad 54 = .ok (.sipush 300, 3) := by decide +kernel
theorem dX12_bad_57 : decode cX12_bad 57 = .ok (.if_icmp .ge 16, 3) := by decide +kernel
theorem dX12_bad_60 : decode cX12_bad 60 = .ok (.iload_n 3, 1) := by decide +kernel
theorem dX12_bad_61 : decode cX12_bad 61 = .ok (.iload_n 2, 1) := by decide +kernel
theorem dX12_bad_62 : decode cX12_bad 62 = .ok (.if_icmp .eq 5, 3) := by decide +kernel
theorem dX12_bad_65 : decode cX12_bad 65 = .ok (.iload_n 1, 1) := by decide +kernel
theorem dX12_bad_66 : decode cX12_bad 66 = .ok (.ireturn, 1) := by decide +kernel
theorem dX12_bad_67 : decode cX12_bad 67 = .ok (.iinc 1 1, 3) := by decide +kernel
theorem dX12_bad_70 : decode cX12_bad 70 = .ok (.goto 35, 3) := by decide +kernel
theorem dX12_bad_73 : decode cX12_bad 73 = .ok (.iload_n 2, 1) := by decide +kernel
theorem dX12_bad_74 : decode cX12_bad 74 = .ok (.sipush 300, 3) := by decide +kernel
theorem dX12_bad_77 : decode cX12_bad 77 = .ok (.if_icmp .ne 19, 3) := by decide +kernel
theorem dX12_bad_80 : decode cX12_bad 80 = .ok (.aload_n 0, 1) := by decide +kernel
theorem dX12_bad_81 : decode cX12_bad 81 = .ok (.iload_n 3, 1) := by decide +kernel
theorem dX12_bad_82 : decode cX12_bad 82 = .ok (.invokevirtual 250, 3) := by decide +kernel
theorem dX12_bad_85 : decode cX12_bad 85 = .ok (.ifCond .ne 5, 3) := by decide +kernel
theorem dX12_bad_88 : decode cX12_bad 88 = .ok (.iload_n 1, 1) := by decide +kernel
theorem dX12_bad_89 : decode cX12_bad 89 = .ok (.ireturn, 1) := by decide +kernel
theorem dX12_bad_90 : decode cX12_bad 90 = .ok (.iinc 1 1, 3) := by decide +kernel
theorem dX12_bad_93 : decode cX12_bad 93 = .ok (.goto 12, 3) := by decide +kernel
theorem dX12_bad_96 : decode cX12_bad 96 = .ok (.iload_n 1, 1) := by decide +kernel
theorem dX12_bad_97 : decode cX12_bad 97 = .ok (.aload_n 0, 1) := by decide +kernel
theorem dX12_bad_98 : decode cX12_bad 98 = .ok (.iload_n 2, 1) := by decide +kernel
theorem dX12_bad_99 : decode cX12_bad 99 = .ok (.iload_n 3, 1) := by decide +kernel
theorem dX12_bad_100 : decode cX12_bad 100 = .ok (.invokevirtual 253, 3) := by decide +kernel
theorem dX12_bad_103 : decode cX12_bad 103 = .ok (.iadd, 1) := by decide +kernel
theorem dX12_bad_104 : decode cX12_bad 104 = .ok (.istore_n 1, 1) := by decide +kernel
theorem dX12_bad_105 : decode cX12_bad 105 = .ok (.goto (-86), 3) := by decide +kernel
theorem dX12_bad_108 : decode cX12_bad 108 = .ok (.iconst (-1), 1) := by decide +kernel
theorem dX12_bad_109 : decode cX12_bad 109 = .ok (.ireturn, 1) := by decide +kernel
set_option maxRecDepth 20000 in
theorem ggX12_node_X12_want : GoodIn wsX12_node wsX12_want := goodIn_s _ [(5, 61)] rfl (by decide +kernel)
set_option maxRecDepth 20000 in
theorem gX12_node_X12_want : GoodIn wsX12_node (wsV RX12 247 RX12 yX12_want wsX12_want) := goodIn_app (goodIn_r _ [1, 2, 3, 4] rfl (by decide +kernel)) ggX12_node_X12_want
theorem dX12_node_0 : decode cX12_node 0 = .ok (.iload_n 1, 1) := by decide +kernel
theorem dX12_node_1 : decode cX12_node 1 = .ok (.bipush 91, 2) := by decide +kernel
theorem dX12_node_3 : decode cX12_node 3 = .ok (.if_icmp .ne 19, 3) := by decide +kernel
theorem dX12_node_6 : decode cX12_node 6 = .ok (.aload_n 0, 1) := by decide +kernel
theorem dX12_node_7 : decode cX12_node 7 = .ok (.bipush 93, 2) := by decide +kernel
theorem dX12_node_9 : decode cX12_node 9 = .ok (.invokevirtual 247, 3) := by decide +kernel
theorem dX12_node_12 : decode cX12_node 12 = .ok (.aload_n 0, 1) := by decide +kernel
theorem dX12_node_13 : decode cX12_node 13 = .ok (.sipush 301, 3) := by decide +kernel
theorem dX12_node_16 : decode cX12_node 16 = .ok (.invokevirtual 247, 3) := by decide +kernel
theorem dX12_node_19 : decode cX12_node 19 = .ok (.goto 86, 3) := by decide +kernel
theorem dX12_node_22 : decode cX12_node 22 = .ok (.iload_n 1, 1) := by decide +kernel
theorem dX12_node_23 : decode cX12_node 23 = .ok (.bipush 63, 2) := by decide +kernel
theorem dX12_node_25 : decode cX12_node 25 = .ok (.if_icmp .ne 32, 3) := by decide +kernel
theorem dX12_node_28 : decode cX12_node 28 = .ok (.aload_n 0, 1) := by decide +kernel
theorem dX12_node_29 : decode cX12_node 29 = .ok (.bipush 41, 2) := by decide +kernel
theorem dX12_node_31 : decode cX12_node 31 = .ok (.invokevirtual 247, 3) := by decide +kernel
theorem dX12_node_34 : decode cX12_node 34 = .ok (.aload_n 0, 1) := by decide +kernel
theorem dX12_node_35 : decode cX12_node 35 = .ok (.sipush 304, 3) := by decide +kernel
theorem dX12_node_38 : decode cX12_node 38 = .ok (.invokevirtual 247, 3) := by decide +kernel
theorem dX12_node_41 : decode cX12_node 41 = .ok (.aload_n 0, 1) := by decide +kernel
theorem dX12_node_42 : decode cX12_node 42 = .ok (.sipush 303, 3) := by decide +kernel
theorem dX12_node_45 : decode cX12_node 45 = .ok (.invokevirtual 247, 3) := by decide +kernel
theorem dX12_node_48 : decode cX12_node 48 = .ok (.aload_n 0, 1) := by decide +kernel
theorem dX12_node_49 : decode cX12_node 49 = .ok (.bipush 40, 2) := by decide +kernel
theorem dX12_node_51 : decode cX12_node 51 = .ok (.invokevirtual 247, 3) := by decide +kernel
theorem dX12_node_54 : decode cX12_node 54 = .ok (.goto 51, 3) := by decide +kernel
theorem dX12_node_57 : decode cX12_node 57 = .ok (.iload_n 1, 1) := by decide +kernel
theorem dX12_node_58 : decode cX12_node 58 = .ok (.bipush 65, 2) := by decide +kernel
theorem dX12_node_60 : decode cX12_node 60 = .ok (.if_icmp .eq 9, 3) := by decide +kernel
theorem dX12_node_63 : decode cX12_node 63 = .ok (.iload_n 1, 1) := by decide +kernel
theorem dX12_node_64 : decode cX12_node 64 = .ok (.bipush 66, 2) := by decide +kernel
theorem dX12_node_66 : decode cX12_node 66 = .ok (.if_icmp .ne 37, 3) := by decide +kernel
theorem dX12_node_69 : decode cX12_node 69 = .ok (.aload_n 0, 1) := by decide +kernel
theorem dX12_node_70 : decode cX12_node 70 = .ok (.bipush 41, 2) := by decide +kernel
theorem dX12_node_72 : decode cX12_node 72 = .ok (.invokevirtual 247, 3) := by decide +kernel
theorem dX12_node_75 : decode cX12_node 75 = .ok (.aload_n 0, 1) := by decide +kernel
theorem dX12_node_76 : decode cX12_node 76 = .ok (.sipush 305, 3) := by decide +kernel
theorem dX12_node_79 : decode cX12_node 79 = .ok (.invokevirtual 247, 3) := by decide +kernel
theorem dX12_node_82 : decode cX12_node 82 = .ok (.aload_n 0, 1) := by decide +kernel
theorem dX12_node_83 : decode cX12_node 83 = .ok (.sipush 300, 3) := by decide +kernel
theorem dX12_node_86 : decode cX12_node 86 = .ok (.invokevirtual 247, 3) := by decide +kernel
theorem dX12_node_89 : decode cX12_node 89 = .ok (.aload_n 0, 1) := by decide +kernel
theorem dX12_node_90 : decode cX12_node 90 = .ok (.bipush 40, 2) := by decide +kernel
theorem dX12_node_92 : decode cX12_node 92 = .ok (.invokevirtual 247, 3) := by decide +kernel
theorem dX12_node_95 : decode cX12_node 95 = .ok (.aload_n 0, 1) := by decide +kernel
theorem dX12_node_96 : decode cX12_node 96 = .ok (.iconst 1, 1) := by decide +kernel
theorem dX12_node_97 : decode cX12_node 97 = .ok (.invokevirtual 247, 3) := by decide +kernel
theorem dX12_node_100 : decode cX12_node 100 = .ok (.goto 5, 3) := by decide +kernel
theorem dX12_node_103 : decode cX12_node 103 = .ok (.iconst 0, 1) := by decide +kernel
theorem dX12_node_104 : decode cX12_node 104 = .ok (.ireturn, 1) := by decide +kernel
theorem dX12_node_105 : decode cX12_node 105 = .ok (.iconst 1, 1) := by decide +kernel
theorem dX12_node_106 : decode cX12_node 106 = .ok (.ireturn, 1) := by decide +kernel
set_option maxRecDepth 20000 in
theorem ggX12_part_X12_want : GoodIn wsX12_part wsX12_want := goodIn_s _ [(5, 61)] rfl (by decide +kernel)
set_option maxRecDepth 20000 in
theorem gX12_part_X12_want : GoodIn wsX12_part (wsV RX12 247 RX12 yX12_want wsX12_want) := goodIn_app (goodIn_r _ [1, 2, 3, 4] rfl (by decide +kernel)) ggX12_part_X12_want
theorem dX12_part_0 : decode cX12_part 0 = .ok (.iload_n 1, 1) := by decide +kernel
theorem dX12_part_1 : decode cX12_part 1 = .ok (.sipush 301, 3) := by decide +kernel
theorem dX12_part_4 : decode cX12_part 4 = .ok (.if_icmp .ne 27, 3) := by decide +kernel
theorem dX12_part_7 : decode cX12_part 7 = .ok (.aload_n 0, 1) := by decide +kernel
theorem dX12_part_8 : decode cX12_part 8 = .ok (.sipush 302, 3) := by decide +kernel
theorem dX12_part_11 : decode cX12_part 11 = .ok (.invokevirtual 247, 3) := by decide +kernel
theorem dX12_part_14 : decode cX12_part 14 = .ok (.aload_n 0, 1) := by decide +kernel
theorem dX12_part_15 : decode cX12_part 15 = .ok (.iconst 1, 1) := by decide +kernel
theorem dX12_part_16 : decode cX12_part 16 = .ok (.invokevirtual 247, 3) := by decide +kernel
theorem dX12_part_19 : decode cX12_part 19 = .ok (.iload_n 2, 1) := by decide +kernel
theorem dX12_part_20 : decode cX12_part 20 = .ok (.bipush 45, 2) := by decide +kernel
theorem dX12_part_22 : decode cX12_part 22 = .ok (.if_icmp .ne 7, 3) := by decide +kernel
theorem dX12_part_25 : decode cX12_part 25 = .ok (.iconst 1, 1) := by decide +kernel
theorem dX12_part_26 : decode cX12_part 26 = .ok (.goto 4, 3) := by decide +kernel
theorem dX12_part_29 : decode cX12_part 29 = .ok (.iconst 0, 1) := by decide +kernel
theorem dX12_part_30 : decode cX12_part 30 = .ok (.ireturn, 1) := by decide +kernel
theorem dX12_part_31 : decode cX12_part 31 = .ok (.iload_n 1, 1) := by decide +kernel
theorem dX12_part_32 : decode cX12_part 32 = .ok (.sipush 302, 3) := by decide +kernel
theorem dX12_part_35 : decode cX12_part 35 = .ok (.if_icmp .ne 18, 3) := by decide +kernel
theorem dX12_part_38 : decode cX12_part 38 = .ok (.iload_n 2, 1) := by decide +kernel
theorem dX12_part_39 : decode cX12_part 39 = .ok (.bipush 47, 2) := by decide +kernel
theorem dX12_part_41 : decode cX12_part 41 = .ok (.if_icmp .ne 10, 3) := by decide +kernel
theorem dX12_part_44 : decode cX12_part 44 = .ok (.aload_n 0, 1) := by decide +kernel
theorem dX12_part_45 : decode cX12_part 45 = .ok (.iconst 1, 1) := by decide +kernel
theorem dX12_part_46 : decode cX12_part 46 = .ok (.invokevirtual 247, 3) := by decide +kernel
theorem dX12_part_49 : decode cX12_part 49 = .ok (.iconst 1, 1) := by decide +kernel
theorem dX12_part_50 : decode cX12_part 50 = .ok (.ireturn, 1) := by decide +kernel
theorem dX12_part_51 : decode cX12_part 51 = .ok (.iconst 0, 1) := by decide +kernel
theorem dX12_part_52 : decode cX12_part 52 = .ok (.ireturn, 1) := by decide +kernel
theorem dX12_part_53 : decode cX12_part 53 = .ok (.iload_n 1, 1) := by decide +kernel
theorem dX12_part_54 : decode cX12_part 54 = .ok (.sipush 303, 3) := by decide +kernel
theorem dX12_part_57 : decode cX12_part 57 = .ok (.if_icmp .ne 25, 3) := by decide +kernel
theorem dX12_part_60 : decode cX12_part 60 = .ok (.aload_n 0, 1) := by decide +kernel
theorem dX12_part_61 : decode cX12_part 61 = .ok (.sipush 300, 3) := by decide +kernel
theorem dX12_part_64 : decode cX12_part 64 = .ok (.invokevirtual 247, 3) := by decide +kernel
theorem dX12_part_67 : decode cX12_part 67 = .ok (.aload_n 0, 1) := by decide +kernel
theorem dX12_part_68 : decode cX12_part 68 = .ok (.bipush 58, 2) := by decide +kernel
theorem dX12_part_70 : decode cX12_part 70 = .ok (.invokevirtual 247, 3) := by decide +kernel
theorem dX12_part_73 : decode cX12_part 73 = .ok (.aload_n 0, 1) := by decide +kernel
theorem dX12_part_74 : decode cX12_part 74 = .ok (.sipush 301, 3) := by decide +kernel
theorem dX12_part_77 : decode cX12_part 77 = .ok (.invokevirtual 247, 3) := by decide +kernel
theorem dX12_part_80 : decode cX12_part 80 = .ok (.iconst 0, 1) := by decide +kernel
theorem dX12_part_81 : decode cX12_part 81 = .ok (.ireturn, 1) := by decide +kernel
theorem dX12_part_82 : decode cX12_part 82 = .ok (.iload_n 2, 1) := by decide +kernel
theorem dX12_part_83 : decode cX12_part 83 = .ok (.bipush 44, 2) := by decide +kernel
theorem dX12_part_85 : decode cX12_part 85 = .ok (.if_icmp .eq 5, 3) := by decide +kernel
theorem dX12_part_88 : decode cX12_part 88 = .ok (.iconst 0, 1) := by decide +kernel
theorem dX12_part_89 : decode cX12_part 89 = .ok (.ireturn, 1) := by decide +kernel
theorem dX12_part_90 : decode cX12_part 90 = .ok (.aload_n 0, 1) := by decide +kernel
theorem dX12_part_91 : decode cX12_part 91 = .ok (.iload_n 1, 1) := by decide +kernel
theorem dX12_part_92 : decode cX12_part 92 = .ok (.invokevirtual 247, 3) := by decide +kernel
theorem dX12_part_95 : decode cX12_part 95 = .ok (.aload_n 0, 1) := by decide +kernel
theorem dX12_part_96 : decode cX12_part 96 = .ok (.iload_n 1, 1) := by decide +kernel
theorem dX12_part_97 : decode cX12_part 97 = .ok (.sipush 304, 3) := by decide +kernel
theorem dX12_part_100 : decode cX12_part 100 = .ok (.if_icmp .ne 9, 3) := by decide +kernel
theorem dX12_part_103 : decode cX12_part 103 = .ok (.sipush 303, 3) := by decide +kernel
theorem dX12_part_106 : decode cX12_part 106 = .ok (.goto 6, 3) := by decide +kernel
theorem dX12_part_109 : decode cX12_part 109 = .ok (.sipush 300, 3) := by decide +kernel
theorem dX12_part_112 : decode cX12_part 112 = .ok (.invokevirtual 247, 3) := by decide +kernel
theorem dX12_part_115 : decode cX12_part 115 = .ok (.iconst 1, 1) := by decide +kernel
theorem dX12_part_116 : decode cX12_part 116 = .ok (.ireturn, 1) := by decide +kernel
theorem dX12_plansOf_0 : decode cX12_plansOf 0 = .ok (.iconst 1, 1) := by decide +kernel
theorem dX12_plansOf_1 : decode cX12_plansOf 1 = .ok (.istore_n 3, 1) := by decide +kernel
theorem dX12_plansOf_2 : decode cX12_plansOf 2 = .ok (.iconst 0, 1) := by decide +kernel
theorem dX12_plansOf_3 : decode cX12_plansOf 3 = .ok (.istore 4, 2) := by decide +kernel
theorem dX12_plansOf_5 : decode cX12_plansOf 5 = .ok (.iload 4, 2) := by decide +kernel
theorem dX12_plansOf_7 : decode cX12_plansOf 7 = .ok (.aload_n 0, 1) := by decide +kernel
theorem dX12_plansOf_8 : decode cX12_plansOf 8 = .ok (.getfield 154, 3) := by decide +kernel
theorem dX12_plansOf_11 : decode cX12_plansOf 11 = .ok (.iconst 2, 1) := by decide +kernel
theorem dX12_plansOf_12 : decode cX12_plansOf 12 = .ok (.iload_n 1, 1) := by decide +kernel
theorem dX12_plansOf_13 : decode cX12_plansOf 13 = .ok (.imul, 1) := by decide +kernel
theorem dX12_plansOf_14 : decode cX12_plansOf 14 = .ok (.iload_n 2, 1) := by decide +kernel
theorem dX12_plansOf_15 : decode cX12_plansOf 15 = .ok (.iadd, 1) := by decide +kernel
theorem dX12_plansOf_16 : decode cX12_plansOf 16 = .ok (.iaload, 1) := by decide +kernel
theorem dX12_plansOf_17 : decode cX12_plansOf 17 = .ok (.if_icmp .ge 29, 3) := by decide +kernel
theorem dX12_plansOf_20 : decode cX12_plansOf 20 = .ok (.iload_n 3, 1) := by decide +kernel
theorem dX12_plansOf_21 : decode cX12_plansOf 21 = .ok (.aload_n 0, 1) := by decide +kernel
theorem dX12_plansOf_22 : decode cX12_plansOf 22 = .ok (.getfield 160, 3) := by decide +kernel
theorem dX12_plansOf_25 : decode cX12_plansOf 25 = .ok (.bipush 20, 2) := by decide +kernel
theorem dX12_plansOf_27 : decode cX12_plansOf 27 = .ok (.iload_n 1, 1) := by decide +kernel
theorem dX12_plansOf_28 : decode cX12_plansOf 28 = .ok (.imul, 1) := by decide +kernel
theorem dX12_plansOf_29 : decode cX12_plansOf 29 = .ok (.bipush 10, 2) := by decide +kernel
theorem dX12_plansOf_31 : decode cX12_plansOf 31 = .ok (.iload_n 2, 1) := by decide +kernel
theorem dX12_plansOf_32 : decode cX12_plansOf 32 = .ok (.imul, 1) := by decide +kernel
theorem dX12_plansOf_33 : decode cX12_plansOf 33 = .ok (.iadd, 1) := by decide +kernel
theorem dX12_plansOf_34 : decode cX12_plansOf 34 = .ok (.iload 4, 2) := by decide +kernel
theorem dX12_plansOf_36 : decode cX12_plansOf 36 = .ok (.iadd, 1) := by decide +kernel
theorem dX12_plansOf_37 : decode cX12_plansOf 37 = .ok (.iaload, 1) := by decide +kernel
theorem dX12_plansOf_38 : decode cX12_plansOf 38 = .ok (.imul, 1) := by decide +kernel
theorem dX12_plansOf_39 : decode cX12_plansOf 39 = .ok (.istore_n 3, 1) := by decide +kernel
theorem dX12_plansOf_40 : decode cX12_plansOf 40 = .ok (.iinc 4 1, 3) := by decide +kernel
theorem dX12_plansOf_43 : decode cX12_plansOf 43 = .ok (.goto (-38), 3) := by decide +kernel
theorem dX12_plansOf_46 : decode cX12_plansOf 46 = .ok (.iload_n 3, 1) := by decide +kernel
theorem dX12_plansOf_47 : decode cX12_plansOf 47 = .ok (.ireturn, 1) := by decide +kernel
theorem dX12_stop_0 : decode cX12_stop 0 = .ok (.aload_n 0, 1) := by decide +kernel
theorem dX12_stop_1 : decode cX12_stop 1 = .ok (.getfield 256, 3) := by decide +kernel
theorem dX12_stop_4 : decode cX12_stop 4 = .ok (.ifCond .ne 18, 3) := by decide +kernel
theorem dX12_stop_7 : decode cX12_stop 7 = .ok (.aload_n 0, 1) := by decide +kernel
theorem dX12_stop_8 : decode cX12_stop 8 = .ok (.iload_n 1, 1) := by decide +kernel
theorem dX12_stop_9 : decode cX12_stop 9 = .ok (.putfield 256, 3) := by decide +kernel
theorem dX12_stop_12 : decode cX12_stop 12 = .ok (.aload_n 0, 1) := by decide +kernel
theorem dX12_stop_13 : decode cX12_stop 13 = .ok (.aload_n 0, 1) := by decide +kernel
theorem dX12_stop_14 : decode cX12_stop 14 = .ok (.getfield 105, 3) := by decide +kernel
theorem dX12_stop_17 : decode cX12_stop 17 = .ok (.iload_n 2, 1) := by decide +kernel
theorem dX12_stop_18 : decode cX12_stop 18 = .ok (.iaload, 1) := by decide +kernel
theorem dX12_stop_19 : decode cX12_stop 19 = .ok (.putfield 259, 3) := by decide +kernel
theorem dX12_stop_22 : decode cX12_stop 22 = .ok (.return_, 1) := by decide +kernel
theorem dX12_divisor_0 : decode cX12_divisor 0 = .ok (.lload_n 0, 1) := by decide +kernel
theorem dX12_divisor_1 : decode cX12_divisor 1 = .ok (.lconst 0, 1) := by decide +kernel
theorem dX12_divisor_2 : decode cX12_divisor 2 = .ok (.lcmp, 1) := by decide +kernel
theorem dX12_divisor_3 : decode cX12_divisor 3 = .ok (.ifCond .ge 8, 3) := by decide +kernel
theorem dX12_divisor_6 : decode cX12_divisor 6 = .ok (.lload_n 0, 1) := by decide +kernel
theorem dX12_divisor_7 : decode cX12_divisor 7 = .ok (.lneg, 1) := by decide +kernel
theorem dX12_divisor_8 : decode cX12_divisor 8 = .ok (.goto 4, 3) := by decide +kernel
theorem dX12_divisor_11 : decode cX12_divisor 11 = .ok (.lload_n 0, 1) := by decide +kernel
theorem dX12_divisor_12 : decode cX12_divisor 12 = .ok (.lstore 4, 2) := by decide +kernel
theorem dX12_divisor_14 : decode cX12_divisor 14 = .ok (.lload_n 2, 1) := by decide +kernel
theorem dX12_divisor_15 : decode cX12_divisor 15 = .ok (.lstore 6, 2) := by decide +kernel
theorem dX12_divisor_17 : decode cX12_divisor 17 = .ok (.lload 6, 2) := by decide +kernel
theorem dX12_divisor_19 : decode cX12_divisor 19 = .ok (.lconst 0, 1) := by decide +kernel
theorem dX12_divisor_20 : decode cX12_divisor 20 = .ok (.lcmp, 1) := by decide +kernel
theorem dX12_divisor_21 : decode cX12_divisor 21 = .ok (.ifCond .le 21, 3) := by decide +kernel
theorem dX12_divisor_24 : decode cX12_divisor 24 = .ok (.lload 4, 2) := by decide +kernel
theorem dX12_divisor_26 : decode cX12_divisor 26 = .ok (.lload 6, 2) := by decide +kernel
theorem dX12_divisor_28 : decode cX12_divisor 28 = .ok (.lrem, 1) := by decide +kernel
theorem dX12_divisor_29 : decode cX12_divisor 29 = .ok (.lstore 8, 2) := by decide +kernel
theorem dX12_divisor_31 : decode cX12_divisor 31 = .ok (.lload 6, 2) := by decide +kernel
theorem dX12_divisor_33 : decode cX12_divisor 33 = .ok (.lstore 4, 2) := by decide +kernel
theorem dX12_divisor_35 : decode cX12_divisor 35 = .ok (.lload 8, 2) := by decide +kernel
theorem dX12_divisor_37 : decode cX12_divisor 37 = .ok (.lstore 6, 2) := by decide +kernel
theorem dX12_divisor_39 : decode cX12_divisor 39 = .ok (.goto (-22), 3) := by decide +kernel
theorem dX12_divisor_42 : decode cX12_divisor 42 = .ok (.lload 4, 2) := by decide +kernel
theorem dX12_divisor_44 : decode cX12_divisor 44 = .ok (.lreturn, 1) := by decide +kernel
set_option maxRecDepth 20000 in
theorem ggX12_fraction_X12_stop : GoodIn wsX12_fraction wsX12_stop := goodIn_s _ [(10, 62)] rfl (by decide +kernel)
set_option maxRecDepth 20000 in
theorem gX12_fraction_X12_stop : GoodIn wsX12_fraction (wsV RX12 272 RX12 yX12_stop wsX12_stop) := goodIn_app (goodIn_r _ [6, 7, 8, 9] rfl (by decide +kernel)) ggX12_fraction_X12_stop
theorem dX12_fraction_0 : decode cX12_fraction 0 = .ok (.aload_n 0, 1) := by decide +kernel
theorem dX12_fraction_1 : decode cX12_fraction 1 = .ok (.getfield 262, 3) := by decide +kernel
theorem dX12_fraction_4 : decode cX12_fraction 4 = .ok (.istore_n 2, 1) := by decide +kernel
theorem dX12_fraction_5 : decode cX12_fraction 5 = .ok (.aload_n 0, 1) := by decide +kernel
theorem dX12_fraction_6 : decode cX12_fraction 6 = .ok (.getfield 102, 3) := by decide +kernel
theorem dX12_fraction_9 : decode cX12_fraction 9 = .ok (.aload_n 0, 1) := by decide +kernel
theorem dX12_fraction_10 : decode cX12_fraction 10 = .ok (.getfield 262, 3) := by decide +kernel
theorem dX12_fraction_13 : decode cX12_fraction 13 = .ok (.iaload, 1) := by decide +kernel
theorem dX12_fraction_14 : decode cX12_fraction 14 = .ok (.bipush 45, 2) := by decide +kernel
theorem dX12_fraction_16 : decode cX12_fraction 16 = .ok (.if_icmp .ne 7, 3) := by decide +kernel
theorem dX12_fraction_19 : decode cX12_fraction 19 = .ok (.iconst 1, 1) := by decide +kernel
theorem dX12_fraction_20 : decode cX12_fraction 20 = .ok (.goto 4, 3) := by decide +kernel
theorem dX12_fraction_23 : decode cX12_fraction 23 = .ok (.iconst 0, 1) := by decide +kernel
theorem dX12_fraction_24 : decode cX12_fraction 24 = .ok (.istore_n 3, 1) := by decide +kernel
theorem dX12_fraction_25 : decode cX12_fraction 25 = .ok (.aload_n 0, 1) := by decide +kernel
theorem dX12_fraction_26 : decode cX12_fraction 26 = .ok (.iload_n 3, 1) := by decide +kernel
theorem dX12_fraction_27 : decode cX12_fraction 27 = .ok (.ifCond .eq 12, 3) := by decide +kernel
theorem dX12_fraction_30 : decode cX12_fraction 30 = .ok (.aload_n 0, 1) := by decide +kernel
theorem dX12_fraction_31 : decode cX12_fraction 31 = .ok (.getfield 262, 3) := by decide +kernel
theorem dX12_fraction_34 : decode cX12_fraction 34 = .ok (.iconst 1, 1) := by decide +kernel
theorem dX12_fraction_35 : decode cX12_fraction 35 = .ok (.iadd, 1) := by decide +kernel
theorem dX12_fraction_36 : decode cX12_fraction 36 = .ok (.goto 7, 3) := by decide +kernel
theorem dX12_fraction_39 : decode cX12_fraction 39 = .ok (.aload_n 0, 1) := by decide +kernel
theorem dX12_fraction_40 : decode cX12_fraction 40 = .ok (.getfield 262, 3) := by decide +kernel
theorem dX12_fraction_43 : decode cX12_fraction 43 = .ok (.putfield 262, 3) := by decide +kernel
theorem dX12_fraction_46 : decode cX12_fraction 46 = .ok (.aload_n 0, 1) := by decide +kernel
theorem dX12_fraction_47 : decode cX12_fraction 47 = .ok (.iload_n 3, 1) := by decide +kernel
theorem dX12_fraction_48 : decode cX12_fraction 48 = .ok (.ifCond .eq 17, 3) := by decide +kernel
theorem dX12_fraction_51 : decode cX12_fraction 51 = .ok (.aload_n 0, 1) := by decide +kernel
theorem dX12_fraction_52 : decode cX12_fraction 52 = .ok (.getfield 108, 3) := by decide +kernel
theorem dX12_fraction_55 : decode cX12_fraction 55 = .ok (.aload_n 0, 1) := by decide +kernel
theorem dX12_fraction_56 : decode cX12_fraction 56 = .ok (.getfield 262, 3) := by decide +kernel
theorem dX12_fraction_59 : decode cX12_fraction 59 = .ok (.iaload, 1) := by decide +kernel
theorem dX12_fraction_60 : decode cX12_fraction 60 = .ok (.ineg, 1) := by decide +kernel
theorem dX12_fraction_61 : decode cX12_fraction 61 = .ok (.i2l, 1) := by decide +kernel
theorem dX12_fraction_62 : decode cX12_fraction 62 = .ok (.goto 13, 3) := by decide +kernel
theorem dX12_fraction_65 : decode cX12_fraction 65 = .ok (.aload_n 0, 1) := by decide +kernel
theorem dX12_fraction_66 : decode cX12_fraction 66 = .ok (.getfield 108, 3) := by decide +kernel
theorem dX12_fraction_69 : decode cX12_fraction 69 = .ok (.aload_n 0, 1) := by decide +kernel
theorem dX12_fraction_70 : decode cX12_fraction 70 = .ok (.getfield 262, 3) := by decide +kernel
theorem dX12_fraction_73 : decode cX12_fraction 73 = .ok (.iaload, 1) := by decide +kernel
theorem dX12_fraction_74 : decode cX12_fraction 74 = .ok (.i2l, 1) := by decide +kernel
theorem dX12_fraction_75 : decode cX12_fraction 75 = .ok (.putfield 265, 3) := by decide +kernel
theorem dX12_fraction_78 : decode cX12_fraction 78 = .ok (.aload_n 0, 1) := by decide +kernel
theorem dX12_fraction_79 : decode cX12_fraction 79 = .ok (.lconst 1, 1) := by decide +kernel
theorem dX12_fraction_80 : decode cX12_fraction 80 = .ok (.putfield 269, 3) := by decide +kernel
theorem dX12_fraction_83 : decode cX12_fraction 83 = .ok (.aload_n 0, 1) := by decide +kernel
theorem dX12_fraction_84 : decode cX12_fraction 84 = .ok (.dup, 1) := by decide +kernel
theorem dX12_fraction_85 : decode cX12_fraction 85 = .ok (.getfield 262, 3) := by decide +kernel
theorem dX12_fraction_88 : decode cX12_fraction 88 = .ok (.iconst 1, 1) := by decide +kernel
theorem dX12_fraction_89 : decode cX12_fraction 89 = .ok (.iadd, 1) := by decide +kernel
theorem dX12_fraction_90 : decode cX12_fraction 90 = .ok (.putfield 262, 3) := by decide +kernel
theorem dX12_fraction_93 : decode cX12_fraction 93 = .ok (.aload_n 0, 1) := by decide +kernel
theorem dX12_fraction_94 : decode cX12_fraction 94 = .ok (.getfield 102, 3) := by decide +kernel
theorem dX12_fraction_97 : decode cX12_fraction 97 = .ok (.aload_n 0, 1) := by decide +kernel
theorem dX12_fraction_98 : decode cX12_fraction 98 = .ok (.getfield 262, 3) := by decide +kernel
theorem dX12_fraction_101 : decode cX12_fraction 101 = .ok (.iaload, 1) := by decide +kernel
theorem dX12_fraction_102 : decode cX12_fraction 102 = .ok (.bipush 47, 2) := by decide +kernel
theorem dX12_fraction_104 : decode cX12_fraction 104 = .ok (.if_icmp .ne 29, 3) := by decide +kernel
theorem dX12_fraction_107 : decode cX12_fraction 107 = .ok (.aload_n 0, 1) := by decide +kernel
theorem dX12_fraction_108 : decode cX12_fraction 108 = .ok (.aload_n 0, 1) := by decide +kernel
theorem dX12_fraction_109 : decode cX12_fraction 109 = .ok (.getfield 108, 3) := by decide +kernel
theorem dX12_fraction_112 : decode cX12_fraction 112 = .ok (.aload_n 0, 1) := by decide +kernel
theorem dX12_fraction_113 : decode cX12_fraction 113 = .ok (.getfield 262, 3) := by decide +kernel
theorem dX12_fraction_116 : decode cX12_fraction 116 = .ok (.iconst 1, 1) := by decide +kernel
theorem dX12_fraction_117 : decode cX12_fraction 117 = .ok (.iadd, 1) := by decide +kernel
theorem dX12_fraction_118 : decode cX12_fraction 118 = .ok (.iaload, 1) := by decide +kernel
theorem dX12_fraction_119 : decode cX12_fraction 119 = .ok (.i2l, 1) := by decide +kernel
theorem dX12_fraction_120 : decode cX12_fraction 120 = .ok (.putfield 269, 3) := by decide +kernel
theorem dX12_fraction_123 : decode cX12_fraction 123 = .ok (.aload_n 0, 1) := by decide +kernel
theorem dX12_fraction_124 : decode cX12_fraction 124 = .ok (.aload_n 0, 1) := by decide +kernel
theorem dX12_fraction_125 : decode cX12_fraction 125 = .ok (.getfield 262, 3) := by decide +kernel
theorem dX12_fraction_128 : decode cX12_fraction 128 = .ok (.iconst 2, 1) := by decide +kernel
theorem dX12_fraction_129 : decode cX12_fraction 129 = .ok (.iadd, 1) := by decide +kernel
theorem dX12_fraction_130 : decode cX12_fraction 130 = .ok (.putfield 262, 3) := by decide +kernel
theorem dX12_fraction_133 : decode cX12_fraction 133 = .ok (.aload_n 0, 1) := by decide +kernel
theorem dX12_fraction_134 : decode cX12_fraction 134 = .ok (.getfield 269, 3) := by decide +kernel
theorem dX12_fraction_137 : decode cX12_fraction 137 = .ok (.lconst 0, 1) := by decide +kernel
theorem dX12_fraction_138 : decode cX12_fraction 138 = .ok (.lcmp, 1) := by decide +kernel
theorem dX12_fraction_139 : decode cX12_fraction 139 = .ok (.ifCond .eq 28, 3) := by decide +kernel
theorem dX12_fraction_142 : decode cX12_fraction 142 = .ok (.iload_n 1, 1) := by decide +kernel
theorem dX12_fraction_143 : decode cX12_fraction 143 = .ok (.ifCond .eq 30, 3) := by decide +kernel
theorem dX12_fraction_146 : decode cX12_fraction 146 = .ok (.aload_n 0, 1) := by decide +kernel
theorem dX12_fraction_147 : decode cX12_fraction 147 = .ok (.getfield 265, 3) := by decide +kernel
theorem dX12_fraction_150 : decode cX12_fraction 150 = .ok (.lconst 0, 1) := by decide +kernel
theorem dX12_fraction_151 : decode cX12_fraction 151 = .ok (.lcmp, 1) := by decide +kernel
theorem dX12_fraction_152 : decode cX12_fraction 152 = .ok (.ifCond .le 15, 3) := by decide +kernel
theorem dX12_fraction_155 : decode cX12_fraction 155 = .ok (.aload_n 0, 1) := by decide +kernel
theorem dX12_fraction_156 : decode cX12_fraction 156 = .ok (.getfield 265, 3) := by decide +kernel
theorem dX12_fraction_159 : decode cX12_fraction 159 = .ok (.aload_n 0, 1) := by decide +kernel
theorem dX12_fraction_160 : decode cX12_fraction 160 = .ok (.getfield 269, 3) := by decide +kernel
theorem dX12_fraction_163 : decode cX12_fraction 163 = .ok (.lcmp, 1) := by decide +kernel
theorem dX12_fraction_164 : decode cX12_fraction 164 = .ok (.ifCond .le 9, 3) := by decide +kernel
theorem dX12_fraction_167 : decode cX12_fraction 167 = .ok (.aload_n 0, 1) := by decide +kernel
theorem dX12_fraction_168 : decode cX12_fraction 168 = .ok (.iconst 3, 1) := by decide +kernel
theorem dX12_fraction_169 : decode cX12_fraction 169 = .ok (.iload_n 2, 1) := by decide +kernel
theorem dX12_fraction_170 : decode cX12_fraction 170 = .ok (.invokevirtual 272, 3) := by decide +kernel
theorem dX12_fraction_173 : decode cX12_fraction 173 = .ok (.return_, 1) := by decide +kernel
set_option maxRecDepth 20000 in
theorem ggX12_go_X12_beginNode : GoodIn wsX12_go wsX12_beginNode := goodIn_s _ [(15, 1), (10, 1), (16, 1), (1, 2), (9, 1), (17, 2), (8, 1), (19, 6), (4, 2), (25, 3), (14, 1), (28, 7), (7, 1), (35, 16), (3, 1), (51, 3), (6, 1), (54, 9), (89, 58)] rfl (by decide +kernel)
set_option maxRecDepth 20000 in
theorem gX12_go_X12_beginNode : GoodIn wsX12_go (wsV RX12 278 RX12 yX12_beginNode wsX12_beginNode) := goodIn_app (goodIn_r _ [11, 12, 13, 14] rfl (by decide +kernel)) ggX12_go_X12_beginNode
set_option maxRecDepth 20000 in
theorem ggX12_go_X12_goOn : GoodIn wsX12_go wsX12_goOn := goodIn_s _ [(66, 1), (22, 1), (16, 1), (10, 1), (9, 1), (20, 1), (23, 2), (8, 1), (45, 2), (67, 5), (14, 1), (72, 1), (19, 1), (21, 1), (36, 1), (2, 1), (25, 6), (73, 4), (18, 1), (38, 3), (11, 3), (15, 1), (1, 1), (17, 1), (4, 2), (31, 4), (7, 1), (35, 1), (37, 1), (41, 4), (47, 4), (3, 1), (51, 3), (6, 1), (54, 9), (89, 58)] rfl (by decide +kernel)
set_option maxRecDepth 20000 in
theorem gX12_go_X12_goOn : GoodIn wsX12_go (wsV RX12 282 RX12 yX12_goOn wsX12_goOn) := goodIn_app (goodIn_r _ [63, 64, 65, 14] rfl (by decide +kernel)) ggX12_go_X12_goOn
set_option maxRecDepth 20000 in
theorem ggX12_go_X12_over : GoodIn wsX12_go wsX12_over := goodIn_s _ [(80, 1), (2, 1), (81, 1), (3, 1), (18, 1), (52, 1), (82, 1), (51, 1), (83, 5), (14, 1), (88, 1), (7, 1), (36, 1), (25, 4), (8, 1), (29, 2), (38, 3), (89, 58)] rfl (by decide +kernel)
set_option maxRecDepth 20000 in
theorem gX12_go_X12_over : GoodIn wsX12_go (wsV RX12 285 RX12 yX12_over wsX12_over) := goodIn_app (goodIn_r _ [77, 78, 79, 14] rfl (by decide +kernel)) ggX12_go_X12_over
theorem dX12_go_0 : decode cX12_go 0 = .ok (.aload_n 0, 1) := by decide +kernel
theorem dX12_go_1 : decode cX12_go 1 = .ok (.getfield 114, 3) := by decide +kernel
theorem dX12_go_4 : decode cX12_go 4 = .ok (.aload_n 0, 1) := by decide +kernel
theorem dX12_go_5 : decode cX12_go 5 = .ok (.getfield 172, 3) := by decide +kernel
theorem dX12_go_8 : decode cX12_go 8 = .ok (.iconst 0, 1) := by decide +kernel
theorem dX12_go_9 : decode cX12_go 9 = .ok (.iastore, 1) := by decide +kernel
theorem dX12_go_10 : decode cX12_go 10 = .ok (.aload_n 0, 1) := by decide +kernel
theorem dX12_go_11 : decode cX12_go 11 = .ok (.getfield 117, 3) := by decide +kernel
theorem dX12_go_14 : decode cX12_go 14 = .ok (.aload_n 0, 1) := by decide +kernel
theorem dX12_go_15 : decode cX12_go 15 = .ok (.getfield 172, 3) := by decide +kernel
theorem dX12_go_18 : decode cX12_go 18 = .ok (.iconst 0, 1) := by decide +kernel
theorem dX12_go_19 : decode cX12_go 19 = .ok (.iastore, 1) := by decide +kernel
theorem dX12_go_20 : decode cX12_go 20 = .ok (.aload_n 0, 1) := by decide +kernel
theorem dX12_go_21 : decode cX12_go 21 = .ok (.getfield 120, 3) := by decide +kernel
theorem dX12_go_24 : decode cX12_go 24 = .ok (.aload_n 0, 1) := by decide +kernel
theorem dX12_go_25 : decode cX12_go 25 = .ok (.getfield 172, 3) := by decide +kernel
theorem dX12_go_28 : decode cX12_go 28 = .ok (.iconst 0, 1) := by decide +kernel
theorem dX12_go_29 : decode cX12_go 29 = .ok (.iastore, 1) := by decide +kernel
theorem dX12_go_30 : decode cX12_go 30 = .ok (.aload_n 0, 1) := by decide +kernel
theorem dX12_go_31 : decode cX12_go 31 = .ok (.getfield 123, 3) := by decide +kernel
theorem dX12_go_34 : decode cX12_go 34 = .ok (.aload_n 0, 1) := by decide +kernel
theorem dX12_go_35 : decode cX12_go 35 = .ok (.getfield 172, 3) := by decide +kernel
theorem dX12_go_38 : decode cX12_go 38 = .ok (.iconst 0, 1) := by decide +kernel
theorem dX12_go_39 : decode cX12_go 39 = .ok (.iastore, 1) := by decide +kernel
