set_option maxRecDepth 20000 in
theorem gX12_good_X12_isPlayer : GoodIn wsX12_good (wsV RX12 335 RX12 yX12_isPlayer wsX12_isPlayer) := goodIn_app (goodIn_of _ (by decide +kernel)) ggX12_good_X12_isPlayer
theorem dX12_good_0 : decode cX12_good 0 = .ok (.aload_n 0, 1) := by decide +kernel
theorem dX12_good_1 : decode cX12_good 1 = .ok (.iconst 0, 1) := by decide +kernel
theorem dX12_good_2 : decode cX12_good 2 = .ok (.putfield 223, 3) := by decide +kernel
theorem dX12_good_5 : decode cX12_good 5 = .ok (.aload_n 0, 1) := by decide +kernel
theorem dX12_good_6 : decode cX12_good 6 = .ok (.iload_n 1, 1) := by decide +kernel
theorem dX12_good_7 : decode cX12_good 7 = .ok (.invokevirtual 335, 3) := by decide +kernel
theorem dX12_good_10 : decode cX12_good 10 = .ok (.ifCond .ne 7, 3) := by decide +kernel
theorem dX12_good_13 : decode cX12_good 13 = .ok (.iconst (-1), 1) := by decide +kernel
theorem dX12_good_14 : decode cX12_good 14 = .ok (.goto 16, 3) := by decide +kernel
theorem dX12_good_17 : decode cX12_good 17 = .ok (.aload_n 0, 1) := by decide +kernel
theorem dX12_good_18 : decode cX12_good 18 = .ok (.iload_n 1, 1) := by decide +kernel
theorem dX12_good_19 : decode cX12_good 19 = .ok (.invokevirtual 348, 3) := by decide +kernel
theorem dX12_good_22 : decode cX12_good 22 = .ok (.ifCond .eq 7, 3) := by decide +kernel
theorem dX12_good_25 : decode cX12_good 25 = .ok (.iconst 1, 1) := by decide +kernel
theorem dX12_good_26 : decode cX12_good 26 = .ok (.goto 4, 3) := by decide +kernel
theorem dX12_good_29 : decode cX12_good 29 = .ok (.iconst 0, 1) := by decide +kernel
theorem dX12_good_30 : decode cX12_good 30 = .ok (.ireturn, 1) := by decide +kernel
theorem dX12_expect_0 : decode cX12_expect 0 = .ok (.aload_n 0, 1) := by decide +kernel
theorem dX12_expect_1 : decode cX12_expect 1 = .ok (.aload_n 0, 1) := by decide +kernel
theorem dX12_expect_2 : decode cX12_expect 2 = .ok (.getfield 331, 3) := by decide +kernel
theorem dX12_expect_5 : decode cX12_expect 5 = .ok (.ifCond .eq 23, 3) := by decide +kernel
theorem dX12_expect_8 : decode cX12_expect 8 = .ok (.aload_n 0, 1) := by decide +kernel
theorem dX12_expect_9 : decode cX12_expect 9 = .ok (.iconst 1, 1) := by decide +kernel
theorem dX12_expect_10 : decode cX12_expect 10 = .ok (.invokevirtual 348, 3) := by decide +kernel
theorem dX12_expect_13 : decode cX12_expect 13 = .ok (.ifCond .eq 15, 3) := by decide +kernel
theorem dX12_expect_16 : decode cX12_expect 16 = .ok (.aload_n 0, 1) := by decide +kernel
theorem dX12_expect_17 : decode cX12_expect 17 = .ok (.iconst 2, 1) := by decide +kernel
theorem dX12_expect_18 : decode cX12_expect 18 = .ok (.invokevirtual 348, 3) := by decide +kernel
theorem dX12_expect_21 : decode cX12_expect 21 = .ok (.ifCond .eq 7, 3) := by decide +kernel
theorem dX12_expect_24 : decode cX12_expect 24 = .ok (.iconst 0, 1) := by decide +kernel
theorem dX12_expect_25 : decode cX12_expect 25 = .ok (.goto 4, 3) := by decide +kernel
theorem dX12_expect_28 : decode cX12_expect 28 = .ok (.iconst 1, 1) := by decide +kernel
theorem dX12_expect_29 : decode cX12_expect 29 = .ok (.putfield 223, 3) := by decide +kernel
theorem dX12_expect_32 : decode cX12_expect 32 = .ok (.aload_n 0, 1) := by decide +kernel
theorem dX12_expect_33 : decode cX12_expect 33 = .ok (.getfield 223, 3) := by decide +kernel
theorem dX12_expect_36 : decode cX12_expect 36 = .ok (.ifCond .ne 14, 3) := by decide +kernel
theorem dX12_expect_39 : decode cX12_expect 39 = .ok (.aload_n 0, 1) := by decide +kernel
theorem dX12_expect_40 : decode cX12_expect 40 = .ok (.iconst 0, 1) := by decide +kernel
theorem dX12_expect_41 : decode cX12_expect 41 = .ok (.iconst 0, 1) := by decide +kernel
theorem dX12_expect_42 : decode cX12_expect 42 = .ok (.invokevirtual 361, 3) := by decide +kernel
theorem dX12_expect_45 : decode cX12_expect 45 = .ok (.aload_n 0, 1) := by decide +kernel
theorem dX12_expect_46 : decode cX12_expect 46 = .ok (.iconst 1, 1) := by decide +kernel
theorem dX12_expect_47 : decode cX12_expect 47 = .ok (.invokevirtual 365, 3) := by decide +kernel
theorem dX12_expect_50 : decode cX12_expect 50 = .ok (.return_, 1) := by decide +kernel
theorem dX12_judge_0 : decode cX12_judge 0 = .ok (.aload_n 0, 1) := by decide +kernel
theorem dX12_judge_1 : decode cX12_judge 1 = .ok (.iload_n 1, 1) := by decide +kernel
theorem dX12_judge_2 : decode cX12_judge 2 = .ok (.iconst 1, 1) := by decide +kernel
theorem dX12_judge_3 : decode cX12_judge 3 = .ok (.if_icmp .eq 12, 3) := by decide +kernel
theorem dX12_judge_6 : decode cX12_judge 6 = .ok (.iload_n 1, 1) := by decide +kernel
theorem dX12_judge_7 : decode cX12_judge 7 = .ok (.iconst 2, 1) := by decide +kernel
theorem dX12_judge_8 : decode cX12_judge 8 = .ok (.if_icmp .eq 7, 3) := by decide +kernel
theorem dX12_judge_11 : decode cX12_judge 11 = .ok (.iconst 1, 1) := by decide +kernel
theorem dX12_judge_12 : decode cX12_judge 12 = .ok (.goto 23, 3) := by decide +kernel
theorem dX12_judge_15 : decode cX12_judge 15 = .ok (.aload_n 0, 1) := by decide +kernel
theorem dX12_judge_16 : decode cX12_judge 16 = .ok (.getfield 331, 3) := by decide +kernel
theorem dX12_judge_19 : decode cX12_judge 19 = .ok (.ifCond .eq 11, 3) := by decide +kernel
theorem dX12_judge_22 : decode cX12_judge 22 = .ok (.aload_n 0, 1) := by decide +kernel
theorem dX12_judge_23 : decode cX12_judge 23 = .ok (.iload_n 1, 1) := by decide +kernel
theorem dX12_judge_24 : decode cX12_judge 24 = .ok (.invokevirtual 348, 3) := by decide +kernel
theorem dX12_judge_27 : decode cX12_judge 27 = .ok (.ifCond .ne 7, 3) := by decide +kernel
theorem dX12_judge_30 : decode cX12_judge 30 = .ok (.iconst 2, 1) := by decide +kernel
theorem dX12_judge_31 : decode cX12_judge 31 = .ok (.goto 4, 3) := by decide +kernel
theorem dX12_judge_34 : decode cX12_judge 34 = .ok (.iconst 0, 1) := by decide +kernel
theorem dX12_judge_35 : decode cX12_judge 35 = .ok (.putfield 223, 3) := by decide +kernel
theorem dX12_judge_38 : decode cX12_judge 38 = .ok (.aload_n 0, 1) := by decide +kernel
theorem dX12_judge_39 : decode cX12_judge 39 = .ok (.getfield 223, 3) := by decide +kernel
theorem dX12_judge_42 : decode cX12_judge 42 = .ok (.ifCond .le 4, 3) := by decide +kernel
theorem dX12_judge_45 : decode cX12_judge 45 = .ok (.return_, 1) := by decide +kernel
theorem dX12_judge_46 : decode cX12_judge 46 = .ok (.iconst 2, 1) := by decide +kernel
theorem dX12_judge_47 : decode cX12_judge 47 = .ok (.iload_n 1, 1) := by decide +kernel
theorem dX12_judge_48 : decode cX12_judge 48 = .ok (.isub, 1) := by decide +kernel
theorem dX12_judge_49 : decode cX12_judge 49 = .ok (.istore_n 2, 1) := by decide +kernel
theorem dX12_judge_50 : decode cX12_judge 50 = .ok (.aload_n 0, 1) := by decide +kernel
theorem dX12_judge_51 : decode cX12_judge 51 = .ok (.getfield 205, 3) := by decide +kernel
theorem dX12_judge_54 : decode cX12_judge 54 = .ok (.iconst 1, 1) := by decide +kernel
theorem dX12_judge_55 : decode cX12_judge 55 = .ok (.iload_n 1, 1) := by decide +kernel
theorem dX12_judge_56 : decode cX12_judge 56 = .ok (.iadd, 1) := by decide +kernel
theorem dX12_judge_57 : decode cX12_judge 57 = .ok (.iconst 0, 1) := by decide +kernel
theorem dX12_judge_58 : decode cX12_judge 58 = .ok (.bastore, 1) := by decide +kernel
theorem dX12_judge_59 : decode cX12_judge 59 = .ok (.aload_n 0, 1) := by decide +kernel
theorem dX12_judge_60 : decode cX12_judge 60 = .ok (.iload_n 2, 1) := by decide +kernel
theorem dX12_judge_61 : decode cX12_judge 61 = .ok (.invokevirtual 368, 3) := by decide +kernel
theorem dX12_judge_64 : decode cX12_judge 64 = .ok (.iconst 1, 1) := by decide +kernel
theorem dX12_judge_65 : decode cX12_judge 65 = .ok (.istore_n 3, 1) := by decide +kernel
theorem dX12_judge_66 : decode cX12_judge 66 = .ok (.iload_n 3, 1) := by decide +kernel
theorem dX12_judge_67 : decode cX12_judge 67 = .ok (.ifCond .eq 143, 3) := by decide +kernel
theorem dX12_judge_70 : decode cX12_judge 70 = .ok (.aload_n 0, 1) := by decide +kernel
theorem dX12_judge_71 : decode cX12_judge 71 = .ok (.iload_n 1, 1) := by decide +kernel
theorem dX12_judge_72 : decode cX12_judge 72 = .ok (.iconst 2, 1) := by decide +kernel
theorem dX12_judge_73 : decode cX12_judge 73 = .ok (.if_icmp .ne 7, 3) := by decide +kernel
theorem dX12_judge_76 : decode cX12_judge 76 = .ok (.iconst 1, 1) := by decide +kernel
theorem dX12_judge_77 : decode cX12_judge 77 = .ok (.goto 4, 3) := by decide +kernel
theorem dX12_judge_80 : decode cX12_judge 80 = .ok (.iconst 0, 1) := by decide +kernel
theorem dX12_judge_81 : decode cX12_judge 81 = .ok (.iload_n 1, 1) := by decide +kernel
theorem dX12_judge_82 : decode cX12_judge 82 = .ok (.iconst 1, 1) := by decide +kernel
theorem dX12_judge_83 : decode cX12_judge 83 = .ok (.if_icmp .ne 7, 3) := by decide +kernel
theorem dX12_judge_86 : decode cX12_judge 86 = .ok (.iconst 1, 1) := by decide +kernel
theorem dX12_judge_87 : decode cX12_judge 87 = .ok (.goto 4, 3) := by decide +kernel
theorem dX12_judge_90 : decode cX12_judge 90 = .ok (.iconst 0, 1) := by decide +kernel
theorem dX12_judge_91 : decode cX12_judge 91 = .ok (.invokevirtual 361, 3) := by decide +kernel
theorem dX12_judge_94 : decode cX12_judge 94 = .ok (.aload_n 0, 1) := by decide +kernel
theorem dX12_judge_95 : decode cX12_judge 95 = .ok (.getfield 205, 3) := by decide +kernel
theorem dX12_judge_98 : decode cX12_judge 98 = .ok (.iconst 1, 1) := by decide +kernel
theorem dX12_judge_99 : decode cX12_judge 99 = .ok (.iload_n 1, 1) := by decide +kernel
theorem dX12_judge_100 : decode cX12_judge 100 = .ok (.iadd, 1) := by decide +kernel
theorem dX12_judge_101 : decode cX12_judge 101 = .ok (.baload, 1) := by decide +kernel
theorem dX12_judge_102 : decode cX12_judge 102 = .ok (.ifCond .eq 22, 3) := by decide +kernel
theorem dX12_judge_105 : decode cX12_judge 105 = .ok (.aload_n 0, 1) := by decide +kernel
theorem dX12_judge_106 : decode cX12_judge 106 = .ok (.sipush 4239, 3) := by decide +kernel
theorem dX12_judge_109 : decode cX12_judge 109 = .ok (.sipush 4231, 3) := by decide +kernel
theorem dX12_judge_112 : decode cX12_judge 112 = .ok (.iconst 2, 1) := by decide +kernel
theorem dX12_judge_113 : decode cX12_judge 113 = .ok (.iconst 1, 1) := by decide +kernel
theorem dX12_judge_114 : decode cX12_judge 114 = .ok (.iload_n 1, 1) := by decide +kernel
theorem dX12_judge_115 : decode cX12_judge 115 = .ok (.iadd, 1) := by decide +kernel
theorem dX12_judge_116 : decode cX12_judge 116 = .ok (.imul, 1) := by decide +kernel
theorem dX12_judge_117 : decode cX12_judge 117 = .ok (.iadd, 1) := by decide +kernel
theorem dX12_judge_118 : decode cX12_judge 118 = .ok (.invokevirtual 371, 3) := by decide +kernel
theorem dX12_judge_121 : decode cX12_judge 121 = .ok (.goto 4, 3) := by decide +kernel
theorem dX12_judge_124 : decode cX12_judge 124 = .ok (.iconst 0, 1) := by decide +kernel
theorem dX12_judge_125 : decode cX12_judge 125 = .ok (.istore 4, 2) := by decide +kernel
theorem dX12_judge_127 : decode cX12_judge 127 = .ok (.aload_n 0, 1) := by decide +kernel
theorem dX12_judge_128 : decode cX12_judge 128 = .ok (.getfield 205, 3) := by decide +kernel
theorem dX12_judge_131 : decode cX12_judge 131 = .ok (.iconst 1, 1) := by decide +kernel
theorem dX12_judge_132 : decode cX12_judge 132 = .ok (.iload_n 1, 1) := by decide +kernel
theorem dX12_judge_133 : decode cX12_judge 133 = .ok (.iadd, 1) := by decide +kernel
theorem dX12_judge_134 : decode cX12_judge 134 = .ok (.baload, 1) := by decide +kernel
theorem dX12_judge_135 : decode cX12_judge 135 = .ok (.ifCond .eq 21, 3) := by decide +kernel
theorem dX12_judge_138 : decode cX12_judge 138 = .ok (.iload_n 1, 1) := by decide +kernel
theorem dX12_judge_139 : decode cX12_judge 139 = .ok (.iconst 1, 1) := by decide +kernel
theorem dX12_judge_140 : decode cX12_judge 140 = .ok (.if_icmp .ne 11, 3) := by decide +kernel
theorem dX12_judge_143 : decode cX12_judge 143 = .ok (.iload 4, 2) := by decide +kernel
theorem dX12_judge_145 : decode cX12_judge 145 = .ok (.ifCond .ge 56, 3) := by decide +kernel
theorem dX12_judge_148 : decode cX12_judge 148 = .ok (.goto 8, 3) := by decide +kernel
theorem dX12_judge_151 : decode cX12_judge 151 = .ok (.iload 4, 2) := by decide +kernel
theorem dX12_judge_153 : decode cX12_judge 153 = .ok (.ifCond .le 48, 3) := by decide +kernel
theorem dX12_judge_156 : decode cX12_judge 156 = .ok (.aload_n 0, 1) := by decide +kernel
theorem dX12_judge_157 : decode cX12_judge 157 = .ok (.iconst 1, 1) := by decide +kernel
theorem dX12_judge_158 : decode cX12_judge 158 = .ok (.iload_n 1, 1) := by decide +kernel
theorem dX12_judge_159 : decode cX12_judge 159 = .ok (.iadd, 1) := by decide +kernel
theorem dX12_judge_160 : decode cX12_judge 160 = .ok (.invokevirtual 365, 3) := by decide +kernel
theorem dX12_judge_163 : decode cX12_judge 163 = .ok (.bipush 10, 2) := by decide +kernel
theorem dX12_judge_165 : decode cX12_judge 165 = .ok (.iload_n 2, 1) := by decide +kernel
theorem dX12_judge_166 : decode cX12_judge 166 = .ok (.imul, 1) := by decide +kernel
theorem dX12_judge_167 : decode cX12_judge 167 = .ok (.istore 5, 2) := by decide +kernel
theorem dX12_judge_169 : decode cX12_judge 169 = .ok (.iload 5, 2) := by decide +kernel
theorem dX12_judge_171 : decode cX12_judge 171 = .ok (.bipush 10, 2) := by decide +kernel
theorem dX12_judge_173 : decode cX12_judge 173 = .ok (.iload_n 2, 1) := by decide +kernel
theorem dX12_judge_174 : decode cX12_judge 174 = .ok (.imul, 1) := by decide +kernel
theorem dX12_judge_175 : decode cX12_judge 175 = .ok (.bipush 10, 2) := by decide +kernel
theorem dX12_judge_177 : decode cX12_judge 177 = .ok (.iadd, 1) := by decide +kernel
theorem dX12_judge_178 : decode cX12_judge 178 = .ok (.if_icmp .ge 23, 3) := by decide +kernel
theorem dX12_judge_181 : decode cX12_judge 181 = .ok (.aload_n 0, 1) := by decide +kernel
theorem dX12_judge_182 : decode cX12_judge 182 = .ok (.getfield 211, 3) := by decide +kernel
theorem dX12_judge_185 : decode cX12_judge 185 = .ok (.iload 5, 2) := by decide +kernel
theorem dX12_judge_187 : decode cX12_judge 187 = .ok (.aload_n 0, 1) := by decide +kernel
theorem dX12_judge_188 : decode cX12_judge 188 = .ok (.getfield 208, 3) := by decide +kernel
theorem dX12_judge_191 : decode cX12_judge 191 = .ok (.iload 5, 2) := by decide +kernel
theorem dX12_judge_193 : decode cX12_judge 193 = .ok (.iaload, 1) := by decide +kernel
theorem dX12_judge_194 : decode cX12_judge 194 = .ok (.iastore, 1) := by decide +kernel
theorem dX12_judge_195 : decode cX12_judge 195 = .ok (.iinc 5 1, 3) := by decide +kernel
theorem dX12_judge_198 : decode cX12_judge 198 = .ok (.goto (-29), 3) := by decide +kernel
theorem dX12_judge_201 : decode cX12_judge 201 = .ok (.aload_n 0, 1) := by decide +kernel
theorem dX12_judge_202 : decode cX12_judge 202 = .ok (.iload_n 2, 1) := by decide +kernel
theorem dX12_judge_203 : decode cX12_judge 203 = .ok (.invokevirtual 374, 3) := by decide +kernel
theorem dX12_judge_206 : decode cX12_judge 206 = .ok (.istore_n 3, 1) := by decide +kernel
theorem dX12_judge_207 : decode cX12_judge 207 = .ok (.goto (-141), 3) := by decide +kernel
theorem dX12_judge_210 : decode cX12_judge 210 = .ok (.return_, 1) := by decide +kernel
set_option maxRecDepth 20000 in
theorem ggX12_reply_X12_isPlayer : GoodIn wsX12_reply wsX12_isPlayer := goodIn_r _ [8, 9, 20, 21, 22, 23, 24, 25, 26, 27, 28, 29, 30, 31, 32, 33, 34, 35, 36, 37, 38, 39, 40, 41, 42, 43, 44, 45, 46, 47, 48, 49, 50, 51, 52, 53, 54, 55, 56, 57, 58, 59, 60, 61, 62, 63, 64, 65, 66, 67, 68, 69, 70, 71, 72, 73, 74, 75, 76, 77] rfl (by decide +kernel)
set_option maxRecDepth 20000 in
theorem gX12_reply_X12_isPlayer : GoodIn wsX12_reply (wsV RX12 335 RX12 yX12_isPlayer wsX12_isPlayer) := goodIn_app (goodIn_of _ (by decide +kernel)) ggX12_reply_X12_isPlayer
set_option maxRecDepth 20000 in
theorem ggX12_reply_X12_isSet : GoodIn wsX12_reply wsX12_isSet := goodIn_r _ [13, 4, 5, 6, 7, 8, 9, 14, 15, 16, 17, 18, 19, 20, 21, 22, 23, 24, 25, 26, 27, 28, 29, 30, 31, 32, 33, 34, 35, 36, 37, 38, 39, 40, 41, 42, 43, 44, 45, 46, 47, 48, 49, 50, 51, 52, 53, 54, 55, 56, 57, 58, 59, 60, 61, 62, 63, 64, 65, 66, 67, 68, 69, 70, 71, 72, 73, 74, 75, 76, 77] rfl (by decide +kernel)
set_option maxRecDepth 20000 in
theorem gX12_reply_X12_isSet : GoodIn wsX12_reply (wsV RX12 341 RX12 yX12_isSet wsX12_isSet) := goodIn_app (goodIn_of _ (by decide +kernel)) ggX12_reply_X12_isSet
theorem dX12_reply_0 : decode cX12_reply 0 = .ok (.aload_n 0, 1) := by decide +kernel
theorem dX12_reply_1 : decode cX12_reply 1 = .ok (.iconst 0, 1) := by decide +kernel
theorem dX12_reply_2 : decode cX12_reply 2 = .ok (.putfield 223, 3) := by decide +kernel
theorem dX12_reply_5 : decode cX12_reply 5 = .ok (.aload_n 0, 1) := by decide +kernel
theorem dX12_reply_6 : decode cX12_reply 6 = .ok (.iload_n 1, 1) := by decide +kernel
theorem dX12_reply_7 : decode cX12_reply 7 = .ok (.invokevirtual 335, 3) := by decide +kernel
theorem dX12_reply_10 : decode cX12_reply 10 = .ok (.ifCond .eq 41, 3) := by decide +kernel
theorem dX12_reply_13 : decode cX12_reply 13 = .ok (.aload_n 0, 1) := by decide +kernel
theorem dX12_reply_14 : decode cX12_reply 14 = .ok (.getfield 205, 3) := by decide +kernel
theorem dX12_reply_17 : decode cX12_reply 17 = .ok (.iconst 1, 1) := by decide +kernel
theorem dX12_reply_18 : decode cX12_reply 18 = .ok (.iload_n 1, 1) := by decide +kernel
theorem dX12_reply_19 : decode cX12_reply 19 = .ok (.iadd, 1) := by decide +kernel
theorem dX12_reply_20 : decode cX12_reply 20 = .ok (.baload, 1) := by decide +kernel
theorem dX12_reply_21 : decode cX12_reply 21 = .ok (.ifCond .eq 30, 3) := by decide +kernel
theorem dX12_reply_24 : decode cX12_reply 24 = .ok (.aload_n 0, 1) := by decide +kernel
theorem dX12_reply_25 : decode cX12_reply 25 = .ok (.iconst 3, 1) := by decide +kernel
theorem dX12_reply_26 : decode cX12_reply 26 = .ok (.iload_n 1, 1) := by decide +kernel
theorem dX12_reply_27 : decode cX12_reply 27 = .ok (.isub, 1) := by decide +kernel
theorem dX12_reply_28 : decode cX12_reply 28 = .ok (.iload_n 2, 1) := by decide +kernel
theorem dX12_reply_29 : decode cX12_reply 29 = .ok (.invokevirtual 341, 3) := by decide +kernel
theorem dX12_reply_32 : decode cX12_reply 32 = .ok (.ifCond .eq 19, 3) := by decide +kernel
theorem dX12_reply_35 : decode cX12_reply 35 = .ok (.aload_n 0, 1) := by decide +kernel
theorem dX12_reply_36 : decode cX12_reply 36 = .ok (.getfield 211, 3) := by decide +kernel
theorem dX12_reply_39 : decode cX12_reply 39 = .ok (.bipush 10, 2) := by decide +kernel
theorem dX12_reply_41 : decode cX12_reply 41 = .ok (.iconst 2, 1) := by decide +kernel
theorem dX12_reply_42 : decode cX12_reply 42 = .ok (.iload_n 1, 1) := by decide +kernel
theorem dX12_reply_43 : decode cX12_reply 43 = .ok (.isub, 1) := by decide +kernel
theorem dX12_reply_44 : decode cX12_reply 44 = .ok (.imul, 1) := by decide +kernel
theorem dX12_reply_45 : decode cX12_reply 45 = .ok (.iload_n 2, 1) := by decide +kernel
theorem dX12_reply_46 : decode cX12_reply 46 = .ok (.iadd, 1) := by decide +kernel
theorem dX12_reply_47 : decode cX12_reply 47 = .ok (.iaload, 1) := by decide +kernel
theorem dX12_reply_48 : decode cX12_reply 48 = .ok (.goto 4, 3) := by decide +kernel
theorem dX12_reply_51 : decode cX12_reply 51 = .ok (.iconst (-1), 1) := by decide +kernel
theorem dX12_reply_52 : decode cX12_reply 52 = .ok (.ireturn, 1) := by decide +kernel
theorem dX12_solve_0 : decode cX12_solve 0 = .ok (.aload_n 0, 1) := by decide +kernel
theorem dX12_solve_1 : decode cX12_solve 1 = .ok (.aload_n 0, 1) := by decide +kernel
theorem dX12_solve_2 : decode cX12_solve 2 = .ok (.getfield 331, 3) := by decide +kernel
theorem dX12_solve_5 : decode cX12_solve 5 = .ok (.ifCond .eq 7, 3) := by decide +kernel
theorem dX12_solve_8 : decode cX12_solve 8 = .ok (.iconst 0, 1) := by decide +kernel
theorem dX12_solve_9 : decode cX12_solve 9 = .ok (.goto 4, 3) := by decide +kernel
theorem dX12_solve_12 : decode cX12_solve 12 = .ok (.iconst 1, 1) := by decide +kernel
theorem dX12_solve_13 : decode cX12_solve 13 = .ok (.putfield 223, 3) := by decide +kernel
theorem dX12_solve_16 : decode cX12_solve 16 = .ok (.aload_n 0, 1) := by decide +kernel
theorem dX12_solve_17 : decode cX12_solve 17 = .ok (.getfield 223, 3) := by decide +kernel
theorem dX12_solve_20 : decode cX12_solve 20 = .ok (.ifCond .le 4, 3) := by decide +kernel
theorem dX12_solve_23 : decode cX12_solve 23 = .ok (.return_, 1) := by decide +kernel
theorem dX12_solve_24 : decode cX12_solve 24 = .ok (.aload_n 0, 1) := by decide +kernel
theorem dX12_solve_25 : decode cX12_solve 25 = .ok (.aload_n 0, 1) := by decide +kernel
theorem dX12_solve_26 : decode cX12_solve 26 = .ok (.getfield 328, 3) := by decide +kernel
theorem dX12_solve_29 : decode cX12_solve 29 = .ok (.iconst 0, 1) := by decide +kernel
theorem dX12_solve_30 : decode cX12_solve 30 = .ok (.invokevirtual 313, 3) := by decide +kernel
theorem dX12_solve_33 : decode cX12_solve 33 = .ok (.istore_n 1, 1) := by decide +kernel
theorem dX12_solve_34 : decode cX12_solve 34 = .ok (.aload_n 0, 1) := by decide +kernel
theorem dX12_solve_35 : decode cX12_solve 35 = .ok (.aload_n 0, 1) := by decide +kernel
theorem dX12_solve_36 : decode cX12_solve 36 = .ok (.getfield 328, 3) := by decide +kernel
theorem dX12_solve_39 : decode cX12_solve 39 = .ok (.iconst 1, 1) := by decide +kernel
theorem dX12_solve_40 : decode cX12_solve 40 = .ok (.invokevirtual 313, 3) := by decide +kernel
theorem dX12_solve_43 : decode cX12_solve 43 = .ok (.istore_n 2, 1) := by decide +kernel
theorem dX12_solve_44 : decode cX12_solve 44 = .ok (.aload_n 0, 1) := by decide +kernel
theorem dX12_solve_45 : decode cX12_solve 45 = .ok (.iload_n 1, 1) := by decide +kernel
theorem dX12_solve_46 : decode cX12_solve 46 = .ok (.iload_n 2, 1) := by decide +kernel
theorem dX12_solve_47 : decode cX12_solve 47 = .ok (.invokevirtual 403, 3) := by decide +kernel
theorem dX12_solve_50 : decode cX12_solve 50 = .ok (.lstore_n 3, 1) := by decide +kernel
theorem dX12_solve_51 : decode cX12_solve 51 = .ok (.aload_n 0, 1) := by decide +kernel
theorem dX12_solve_52 : decode cX12_solve 52 = .ok (.iload_n 1, 1) := by decide +kernel
theorem dX12_solve_53 : decode cX12_solve 53 = .ok (.iload_n 2, 1) := by decide +kernel
theorem dX12_solve_54 : decode cX12_solve 54 = .ok (.invokevirtual 407, 3) := by decide +kernel
theorem dX12_solve_57 : decode cX12_solve 57 = .ok (.aload_n 0, 1) := by decide +kernel
theorem dX12_solve_58 : decode cX12_solve 58 = .ok (.iload_n 1, 1) := by decide +kernel
theorem dX12_solve_59 : decode cX12_solve 59 = .ok (.iload_n 2, 1) := by decide +kernel
theorem dX12_solve_60 : decode cX12_solve 60 = .ok (.invokevirtual 381, 3) := by decide +kernel
theorem dX12_solve_63 : decode cX12_solve 63 = .ok (.istore 5, 2) := by decide +kernel
theorem dX12_solve_65 : decode cX12_solve 65 = .ok (.aload_n 0, 1) := by decide +kernel
theorem dX12_solve_66 : decode cX12_solve 66 = .ok (.sipush 4229, 3) := by decide +kernel
theorem dX12_solve_69 : decode cX12_solve 69 = .ok (.lload_n 3, 1) := by decide +kernel
theorem dX12_solve_70 : decode cX12_solve 70 = .ok (.invokevirtual 65, 3) := by decide +kernel
theorem dX12_solve_73 : decode cX12_solve 73 = .ok (.aload_n 0, 1) := by decide +kernel
theorem dX12_solve_74 : decode cX12_solve 74 = .ok (.sipush 4243, 3) := by decide +kernel
theorem dX12_solve_77 : decode cX12_solve 77 = .ok (.sipush 4229, 3) := by decide +kernel
theorem dX12_solve_80 : decode cX12_solve 80 = .ok (.iload 5, 2) := by decide +kernel
theorem dX12_solve_82 : decode cX12_solve 82 = .ok (.invokevirtual 78, 3) := by decide +kernel
theorem dX12_solve_85 : decode cX12_solve 85 = .ok (.aload_n 0, 1) := by decide +kernel
theorem dX12_solve_86 : decode cX12_solve 86 = .ok (.sipush 4243, 3) := by decide +kernel
theorem dX12_solve_89 : decode cX12_solve 89 = .ok (.invokevirtual 400, 3) := by decide +kernel
theorem dX12_solve_92 : decode cX12_solve 92 = .ok (.aload_n 0, 1) := by decide +kernel
theorem dX12_solve_93 : decode cX12_solve 93 = .ok (.sipush 4243, 3) := by decide +kernel
theorem dX12_solve_96 : decode cX12_solve 96 = .ok (.sipush 4225, 3) := by decide +kernel
theorem dX12_solve_99 : decode cX12_solve 99 = .ok (.iconst 0, 1) := by decide +kernel
theorem dX12_solve_100 : decode cX12_solve 100 = .ok (.invokevirtual 81, 3) := by decide +kernel
theorem dX12_solve_103 : decode cX12_solve 103 = .ok (.aload_n 0, 1) := by decide +kernel
theorem dX12_solve_104 : decode cX12_solve 104 = .ok (.sipush 4230, 3) := by decide +kernel
theorem dX12_solve_107 : decode cX12_solve 107 = .ok (.aload_n 0, 1) := by decide +kernel
theorem dX12_solve_108 : decode cX12_solve 108 = .ok (.getfield 151, 3) := by decide +kernel
theorem dX12_solve_111 : decode cX12_solve 111 = .ok (.aload_n 0, 1) := by decide +kernel
theorem dX12_solve_112 : decode cX12_solve 112 = .ok (.getfield 328, 3) := by decide +kernel
theorem dX12_solve_115 : decode cX12_solve 115 = .ok (.laload, 1) := by decide +kernel
theorem dX12_solve_116 : decode cX12_solve 116 = .ok (.invokevirtual 65, 3) := by decide +kernel
theorem dX12_solve_119 : decode cX12_solve 119 = .ok (.aload_n 0, 1) := by decide +kernel
theorem dX12_solve_120 : decode cX12_solve 120 = .ok (.sipush 4244, 3) := by decide +kernel
theorem dX12_solve_123 : decode cX12_solve 123 = .ok (.sipush 4230, 3) := by decide +kernel
theorem dX12_solve_126 : decode cX12_solve 126 = .ok (.iload 5, 2) := by decide +kernel
theorem dX12_solve_128 : decode cX12_solve 128 = .ok (.invokevirtual 78, 3) := by decide +kernel
theorem dX12_solve_131 : decode cX12_solve 131 = .ok (.aload_n 0, 1) := by decide +kernel
theorem dX12_solve_132 : decode cX12_solve 132 = .ok (.sipush 4231, 3) := by decide +kernel
theorem dX12_solve_135 : decode cX12_solve 135 = .ok (.invokevirtual 75, 3) := by decide +kernel
theorem dX12_solve_138 : decode cX12_solve 138 = .ok (.aload_n 0, 1) := by decide +kernel
theorem dX12_solve_139 : decode cX12_solve 139 = .ok (.getfield 205, 3) := by decide +kernel
theorem dX12_solve_142 : decode cX12_solve 142 = .ok (.iconst 0, 1) := by decide +kernel
theorem dX12_solve_143 : decode cX12_solve 143 = .ok (.iconst 1, 1) := by decide +kernel
theorem dX12_solve_144 : decode cX12_solve 144 = .ok (.bastore, 1) := by decide +kernel
theorem dX12_solve_145 : decode cX12_solve 145 = .ok (.return_, 1) := by decide +kernel
theorem dX12_has_0 : decode cX12_has 0 = .ok (.iload_n 1, 1) := by decide +kernel
theorem dX12_has_1 : decode cX12_has 1 = .ok (.ifCond .lt 21, 3) := by decide +kernel
theorem dX12_has_4 : decode cX12_has 4 = .ok (.iload_n 1, 1) := by decide +kernel
theorem dX12_has_5 : decode cX12_has 5 = .ok (.iconst 4, 1) := by decide +kernel
theorem dX12_has_6 : decode cX12_has 6 = .ok (.if_icmp .ge 16, 3) := by decide +kernel
theorem dX12_has_9 : decode cX12_has 9 = .ok (.aload_n 0, 1) := by decide +kernel
theorem dX12_has_10 : decode cX12_has 10 = .ok (.getfield 205, 3) := by decide +kernel
theorem dX12_has_13 : decode cX12_has 13 = .ok (.iload_n 1, 1) := by decide +kernel
theorem dX12_has_14 : decode cX12_has 14 = .ok (.baload, 1) := by decide +kernel
theorem dX12_has_15 : decode cX12_has 15 = .ok (.ifCond .eq 7, 3) := by decide +kernel
theorem dX12_has_18 : decode cX12_has 18 = .ok (.iconst 1, 1) := by decide +kernel
theorem dX12_has_19 : decode cX12_has 19 = .ok (.goto 4, 3) := by decide +kernel
theorem dX12_has_22 : decode cX12_has 22 = .ok (.iconst 0, 1) := by decide +kernel
theorem dX12_has_23 : decode cX12_has 23 = .ok (.ireturn, 1) := by decide +kernel
set_option maxRecDepth 20000 in
theorem ggX12_print_X12_has : GoodIn wsX12_print wsX12_has := goodIn_r _ [8, 9, 46, 47, 48, 49, 50, 51, 52, 53, 54, 55, 56, 57, 58, 59, 60, 61, 62, 63, 64, 65, 66, 67, 68, 69, 70, 71, 72, 73, 74, 75, 76, 77, 78, 79, 80, 81, 82, 83, 84, 85, 86, 87, 88, 89, 90, 91, 92, 93, 94, 95, 96, 97, 98, 99, 100, 101, 102, 103] rfl (by decide +kernel)
set_option maxRecDepth 20000 in
theorem gX12_print_X12_has : GoodIn wsX12_print (wsV RX12 416 RX12 yX12_has wsX12_has) := goodIn_app (goodIn_of _ (by decide +kernel)) ggX12_print_X12_has
theorem dX12_print_0 : decode cX12_print 0 = .ok (.aload_n 0, 1) := by decide +kernel
theorem dX12_print_1 : decode cX12_print 1 = .ok (.iconst 0, 1) := by decide +kernel
theorem dX12_print_2 : decode cX12_print 2 = .ok (.putfield 223, 3) := by decide +kernel
theorem dX12_print_5 : decode cX12_print 5 = .ok (.aload_n 0, 1) := by decide +kernel
theorem dX12_print_6 : decode cX12_print 6 = .ok (.iload_n 1, 1) := by decide +kernel
theorem dX12_print_7 : decode cX12_print 7 = .ok (.invokevirtual 416, 3) := by decide +kernel
theorem dX12_print_10 : decode cX12_print 10 = .ok (.ifCond .ne 5, 3) := by decide +kernel
theorem dX12_print_13 : decode cX12_print 13 = .ok (.iconst (-1), 1) := by decide +kernel
theorem dX12_print_14 : decode cX12_print 14 = .ok (.ireturn, 1) := by decide +kernel
theorem dX12_print_15 : decode cX12_print 15 = .ok (.sipush 4231, 3) := by decide +kernel
theorem dX12_print_18 : decode cX12_print 18 = .ok (.iconst 2, 1) := by decide +kernel
theorem dX12_print_19 : decode cX12_print 19 = .ok (.iload_n 1, 1) := by decide +kernel
theorem dX12_print_20 : decode cX12_print 20 = .ok (.imul, 1) := by decide +kernel
theorem dX12_print_21 : decode cX12_print 21 = .ok (.iadd, 1) := by decide +kernel
theorem dX12_print_22 : decode cX12_print 22 = .ok (.istore_n 2, 1) := by decide +kernel
theorem dX12_print_23 : decode cX12_print 23 = .ok (.aload_n 0, 1) := by decide +kernel
theorem dX12_print_24 : decode cX12_print 24 = .ok (.iconst 0, 1) := by decide +kernel
theorem dX12_print_25 : decode cX12_print 25 = .ok (.putfield 410, 3) := by decide +kernel
theorem dX12_print_28 : decode cX12_print 28 = .ok (.aload_n 0, 1) := by decide +kernel
theorem dX12_print_29 : decode cX12_print 29 = .ok (.iload_n 2, 1) := by decide +kernel
theorem dX12_print_30 : decode cX12_print 30 = .ok (.invokevirtual 25, 3) := by decide +kernel
theorem dX12_print_33 : decode cX12_print 33 = .ok (.ifCond .ge 16, 3) := by decide +kernel
theorem dX12_print_36 : decode cX12_print 36 = .ok (.aload_n 0, 1) := by decide +kernel
theorem dX12_print_37 : decode cX12_print 37 = .ok (.getfield 220, 3) := by decide +kernel
theorem dX12_print_40 : decode cX12_print 40 = .ok (.iconst 0, 1) := by decide +kernel
theorem dX12_print_41 : decode cX12_print 41 = .ok (.bipush 45, 2) := by decide +kernel
theorem dX12_print_43 : decode cX12_print 43 = .ok (.iastore, 1) := by decide +kernel
theorem dX12_print_44 : decode cX12_print 44 = .ok (.aload_n 0, 1) := by decide +kernel
theorem dX12_print_45 : decode cX12_print 45 = .ok (.iconst 1, 1) := by decide +kernel
theorem dX12_print_46 : decode cX12_print 46 = .ok (.putfield 410, 3) := by decide +kernel
theorem dX12_print_49 : decode cX12_print 49 = .ok (.aload_n 0, 1) := by decide +kernel
theorem dX12_print_50 : decode cX12_print 50 = .ok (.iload_n 2, 1) := by decide +kernel
theorem dX12_print_51 : decode cX12_print 51 = .ok (.invokevirtual 419, 3) := by decide +kernel
theorem dX12_print_54 : decode cX12_print 54 = .ok (.aload_n 0, 1) := by decide +kernel
theorem dX12_print_55 : decode cX12_print 55 = .ok (.iload_n 2, 1) := by decide +kernel
theorem dX12_print_56 : decode cX12_print 56 = .ok (.iconst 1, 1) := by decide +kernel
theorem dX12_print_57 : decode cX12_print 57 = .ok (.iadd, 1) := by decide +kernel
theorem dX12_print_58 : decode cX12_print 58 = .ok (.invokevirtual 69, 3) := by decide +kernel
theorem dX12_print_61 : decode cX12_print 61 = .ok (.ifCond .ne 31, 3) := by decide +kernel
theorem dX12_print_64 : decode cX12_print 64 = .ok (.aload_n 0, 1) := by decide +kernel
theorem dX12_print_65 : decode cX12_print 65 = .ok (.getfield 220, 3) := by decide +kernel
theorem dX12_print_68 : decode cX12_print 68 = .ok (.aload_n 0, 1) := by decide +kernel
theorem dX12_print_69 : decode cX12_print 69 = .ok (.getfield 410, 3) := by decide +kernel
theorem dX12_print_72 : decode cX12_print 72 = .ok (.bipush 47, 2) := by decide +kernel
theorem dX12_print_74 : decode cX12_print 74 = .ok (.iastore, 1) := by decide +kernel
theorem dX12_print_75 : decode cX12_print 75 = .ok (.aload_n 0, 1) := by decide +kernel
theorem dX12_print_76 : decode cX12_print 76 = .ok (.dup, 1) := by decide +kernel
theorem dX12_print_77 : decode cX12_print 77 = .ok (.getfield 410, 3) := by decide +kernel
theorem dX12_print_80 : decode cX12_print 80 = .ok (.iconst 1, 1) := by decide +kernel
theorem dX12_print_81 : decode cX12_print 81 = .ok (.iadd, 1) := by decide +kernel
theorem dX12_print_82 : decode cX12_print 82 = .ok (.putfield 410, 3) := by decide +kernel
theorem dX12_print_85 : decode cX12_print 85 = .ok (.aload_n 0, 1) := by decide +kernel
theorem dX12_print_86 : decode cX12_print 86 = .ok (.iload_n 2, 1) := by decide +kernel
theorem dX12_print_87 : decode cX12_print 87 = .ok (.iconst 1, 1) := by decide +kernel
theorem dX12_print_88 : decode cX12_print 88 = .ok (.iadd, 1) := by decide +kernel
theorem dX12_print_89 : decode cX12_print 89 = .ok (.invokevirtual 419, 3) := by decide +kernel
theorem dX12_print_92 : decode cX12_print 92 = .ok (.aload_n 0, 1) := by decide +kernel
theorem dX12_print_93 : decode cX12_print 93 = .ok (.getfield 410, 3) := by decide +kernel
theorem dX12_print_96 : decode cX12_print 96 = .ok (.ireturn, 1) := by decide +kernel
theorem dX12_character_0 : decode cX12_character 0 = .ok (.aload_n 0, 1) := by decide +kernel
theorem dX12_character_1 : decode cX12_character 1 = .ok (.iconst 0, 1) := by decide +kernel
theorem dX12_character_2 : decode cX12_character 2 = .ok (.putfield 223, 3) := by decide +kernel
theorem dX12_character_5 : decode cX12_character 5 = .ok (.iload_n 1, 1) := by decide +kernel
theorem dX12_character_6 : decode cX12_character 6 = .ok (.ifCond .lt 20, 3) := by decide +kernel
theorem dX12_character_9 : decode cX12_character 9 = .ok (.iload_n 1, 1) := by decide +kernel
theorem dX12_character_10 : decode cX12_character 10 = .ok (.aload_n 0, 1) := by decide +kernel
theorem dX12_character_11 : decode cX12_character 11 = .ok (.getfield 410, 3) := by decide +kernel
theorem dX12_character_14 : decode cX12_character 14 = .ok (.if_icmp .ge 12, 3) := by decide +kernel
theorem dX12_character_17 : decode cX12_character 17 = .ok (.aload_n 0, 1) := by decide +kernel
theorem dX12_character_18 : decode cX12_character 18 = .ok (.getfield 220, 3) := by decide +kernel
theorem dX12_character_21 : decode cX12_character 21 = .ok (.iload_n 1, 1) := by decide +kernel
theorem dX12_character_22 : decode cX12_character 22 = .ok (.iaload, 1) := by decide +kernel
theorem dX12_character_23 : decode cX12_character 23 = .ok (.goto 4, 3) := by decide +kernel
theorem dX12_character_26 : decode cX12_character 26 = .ok (.iconst (-1), 1) := by decide +kernel
theorem dX12_character_27 : decode cX12_character 27 = .ok (.ireturn, 1) := by decide +kernel
set_option maxRecDepth 20000 in
theorem ggX12_compare_X12_has : GoodIn wsX12_compare wsX12_has := goodIn_r _ [6, 7, 44, 45, 46, 47, 48, 49, 50, 51, 52, 53, 54, 55, 56, 57, 58, 59, 60, 61, 62, 63, 64, 65, 66, 67, 68, 69, 70, 71, 72, 73, 74, 75, 76, 77, 78, 79, 80, 81, 82, 83, 84, 85, 86, 87, 88, 89, 90, 91, 92, 93, 94, 95, 96, 97, 98, 99, 100, 101] rfl (by decide +kernel)
set_option maxRecDepth 20000 in
theorem gX12_compare_X12_has : GoodIn wsX12_compare (wsV RX12 416 RX12 yX12_has wsX12_has) := goodIn_app (goodIn_of _ (by decide +kernel)) ggX12_compare_X12_has
theorem dX12_compare_0 : decode cX12_compare 0 = .ok (.aload_n 0, 1) := by decide +kernel
theorem dX12_compare_1 : decode cX12_compare 1 = .ok (.iconst 0, 1) := by decide +kernel
theorem dX12_compare_2 : decode cX12_compare 2 = .ok (.putfield 223, 3) := by decide +kernel
theorem dX12_compare_5 : decode cX12_compare 5 = .ok (.aload_n 0, 1) := by decide +kernel
theorem dX12_compare_6 : decode cX12_compare 6 = .ok (.iload_n 1, 1) := by decide +kernel
theorem dX12_compare_7 : decode cX12_compare 7 = .ok (.invokevirtual 416, 3) := by decide +kernel
theorem dX12_compare_10 : decode cX12_compare 10 = .ok (.ifCond .eq 32, 3) := by decide +kernel
theorem dX12_compare_13 : decode cX12_compare 13 = .ok (.aload_n 0, 1) := by decide +kernel
theorem dX12_compare_14 : decode cX12_compare 14 = .ok (.iload_n 2, 1) := by decide +kernel
theorem dX12_compare_15 : decode cX12_compare 15 = .ok (.invokevirtual 416, 3) := by decide +kernel
theorem dX12_compare_18 : decode cX12_compare 18 = .ok (.ifCond .eq 24, 3) := by decide +kernel
theorem dX12_compare_21 : decode cX12_compare 21 = .ok (.aload_n 0, 1) := by decide +kernel
theorem dX12_compare_22 : decode cX12_compare 22 = .ok (.sipush 4231, 3) := by decide +kernel
theorem dX12_compare_25 : decode cX12_compare 25 = .ok (.iconst 2, 1) := by decide +kernel
theorem dX12_compare_26 : decode cX12_compare 26 = .ok (.iload_n 1, 1) := by decide +kernel
theorem dX12_compare_27 : decode cX12_compare 27 = .ok (.imul, 1) := by decide +kernel
theorem dX12_compare_28 : decode cX12_compare 28 = .ok (.iadd, 1) := by decide +kernel
theorem dX12_compare_29 : decode cX12_compare 29 = .ok (.sipush 4231, 3) := by decide +kernel
theorem dX12_compare_32 : decode cX12_compare 32 = .ok (.iconst 2, 1) := by decide +kernel
theorem dX12_compare_33 : decode cX12_compare 33 = .ok (.iload_n 2, 1) := by decide +kernel
theorem dX12_compare_34 : decode cX12_compare 34 = .ok (.imul, 1) := by decide +kernel
theorem dX12_compare_35 : decode cX12_compare 35 = .ok (.iadd, 1) := by decide +kernel
theorem dX12_compare_36 : decode cX12_compare 36 = .ok (.invokevirtual 371, 3) := by decide +kernel
theorem dX12_compare_39 : decode cX12_compare 39 = .ok (.goto 5, 3) := by decide +kernel
theorem dX12_compare_42 : decode cX12_compare 42 = .ok (.bipush (-2), 2) := by decide +kernel
theorem dX12_compare_44 : decode cX12_compare 44 = .ok (.ireturn, 1) := by decide +kernel
theorem dX12_check_0 : decode cX12_check 0 = .ok (.aload_n 0, 1) := by decide +kernel
theorem dX12_check_1 : decode cX12_check 1 = .ok (.iconst 0, 1) := by decide +kernel
theorem dX12_check_2 : decode cX12_check 2 = .ok (.putfield 223, 3) := by decide +kernel
theorem dX12_check_5 : decode cX12_check 5 = .ok (.aload_n 0, 1) := by decide +kernel
theorem dX12_check_6 : decode cX12_check 6 = .ok (.getfield 205, 3) := by decide +kernel
theorem dX12_check_9 : decode cX12_check 9 = .ok (.iconst 0, 1) := by decide +kernel
theorem dX12_check_10 : decode cX12_check 10 = .ok (.baload, 1) := by decide +kernel
theorem dX12_check_11 : decode cX12_check 11 = .ok (.ifCond .eq 7, 3) := by decide +kernel
theorem dX12_check_14 : decode cX12_check 14 = .ok (.iconst 1, 1) := by decide +kernel
theorem dX12_check_15 : decode cX12_check 15 = .ok (.goto 4, 3) := by decide +kernel
theorem dX12_check_18 : decode cX12_check 18 = .ok (.iconst (-1), 1) := by decide +kernel
theorem dX12_check_19 : decode cX12_check 19 = .ok (.ireturn, 1) := by decide +kernel
abbrev vwCl : List vw_C := [(RX0, TX0, 3), (RX1, TX1, 3), (RX2, TX2, 4), (RX3, TX3, 2), (RX4, TX4, 6), (RX5, TX5, 13), (RX6, TX6, 5), (RX7, TX7, 8), (RX8, TX8, 13), (RX9, TX9, 3), (RX10, TX10, 6), (RX11, TX11, 16), (RX12, TX12, 58)]


