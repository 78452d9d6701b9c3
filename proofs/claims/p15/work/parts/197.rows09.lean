set_option maxRecDepth 20000 in
theorem gX12_judge_X12_firstPlan : GoodIn wsX12_judge (wsV RX12 368 RX12 yX12_firstPlan wsX12_firstPlan) := goodIn_app (goodIn_r _ [24, 25, 26, 9] rfl (by decide +kernel)) ggX12_judge_X12_firstPlan
set_option maxRecDepth 20000 in
theorem ggX12_judge_X12_expectAll : GoodIn wsX12_judge wsX12_expectAll := goodIn_s _ [(31, 1), (18, 1), (32, 7), (5, 1), (12, 1), (11, 1), (39, 3), (9, 1), (42, 83), (145, 58)] rfl (by decide +kernel)
set_option maxRecDepth 20000 in
theorem gX12_judge_X12_expectAll : GoodIn wsX12_judge (wsV RX12 361 RX12 yX12_expectAll wsX12_expectAll) := goodIn_app (goodIn_r _ [28, 29, 30, 9] rfl (by decide +kernel)) ggX12_judge_X12_expectAll
set_option maxRecDepth 20000 in
theorem ggX12_judge_X12_compareFractions : GoodIn wsX12_judge wsX12_compareFractions := goodIn_s _ [(128, 1), (100, 3), (9, 1), (103, 1), (50, 1), (48, 1), (71, 1), (47, 1), (51, 4), (84, 4), (129, 8), (117, 4), (72, 4), (145, 58)] rfl (by decide +kernel)
set_option maxRecDepth 20000 in
theorem gX12_judge_X12_compareFractions : GoodIn wsX12_judge (wsV RX12 371 RX12 yX12_compareFractions wsX12_compareFractions) := goodIn_app (goodIn_r _ [125, 126, 127, 9] rfl (by decide +kernel)) ggX12_judge_X12_compareFractions
set_option maxRecDepth 20000 in
theorem ggX12_judge_X12_keep : GoodIn wsX12_judge wsX12_keep := goodIn_s _ [(140, 1), (3, 1), (63, 3), (9, 1), (66, 1), (47, 1), (50, 1), (48, 1), (51, 4), (145, 58)] rfl (by decide +kernel)
set_option maxRecDepth 20000 in
theorem gX12_judge_X12_keep : GoodIn wsX12_judge (wsV RX12 365 RX12 yX12_keep wsX12_keep) := goodIn_app (goodIn_r _ [137, 138, 139, 9] rfl (by decide +kernel)) ggX12_judge_X12_keep
set_option maxRecDepth 20000 in
theorem ggX12_judge_X12_nextPlan : GoodIn wsX12_judge wsX12_nextPlan := goodIn_s _ [(144, 1), (5, 1), (13, 3), (9, 1), (16, 8), (145, 58)] rfl (by decide +kernel)
set_option maxRecDepth 20000 in
theorem gX12_judge_X12_nextPlan : GoodIn wsX12_judge (wsV RX12 374 RX12 yX12_nextPlan wsX12_nextPlan) := goodIn_app (goodIn_r _ [141, 142, 143, 9] rfl (by decide +kernel)) ggX12_judge_X12_nextPlan
theorem dX12_judge_0 : decode cX12_judge 0 = .ok (.aload_n 0, 1) := by decide +kernel
theorem dX12_judge_1 : decode cX12_judge 1 = .ok (.iload_n 1, 1) := by decide +kernel
theorem dX12_judge_2 : decode cX12_judge 2 = .ok (.iconst 1, 1) := by decide +kernel
theorem dX12_judge_3 : decode cX12_judge 3 = .ok (.if_icmp .eq 12, 3) := by decide +kernel
theorem dX12_judge_6 : decode cX12_judge 6 = .ok (.iload_n 1, 1) := by decide +kernel
theorem dX12_judge_7 : decode cX12_judge 7 = .ok (.iconst 2, 1) := by decide +kernel
theorem dX12_judge_8 : decode cX12_judge 8 = .ok (.if_icmp .eq 7, 3) := by decide +kernel
theorem dX12_judge_11 : decode cX12_judge 11 = .ok (.iconst 1, 1) := by decide +kernel
theorem dX12_judge_12 : decode cX12_judge 12 = .ok (.goto 23, 3) := by decide +kernel
theorem dX12_judge_15 : decode cX12_judge 15 = .ok (.aload_n 0, 1) := by decide +kernel
theorem dX12_judge_16 : decode cX12_judge 16 = .ok (.getfield 331, 3) := by decide +kernel
theorem dX12_judge_19 : decode cX12_judge 19 = .ok (.ifCond .eq 11, 3) := by decide +kernel
theorem dX12_judge_22 : decode cX12_judge 22 = .ok (.aload_n 0, 1) := by decide +kernel
theorem dX12_judge_23 : decode cX12_judge 23 = .ok (.iload_n 1, 1) := by decide +kernel
theorem dX12_judge_24 : decode cX12_judge 24 = .ok (.invokevirtual 348, 3) := by decide +kernel
theorem dX12_judge_27 : decode cX12_judge 27 = .ok (.ifCond .ne 7, 3) := by decide +kernel
theorem dX12_judge_30 : decode cX12_judge 30 = .ok (.iconst 2, 1) := by decide +kernel
theorem dX12_judge_31 : decode cX12_judge 31 = .ok (.goto 4, 3) := by decide +kernel
theorem dX12_judge_34 : decode cX12_judge 34 = .ok (.iconst 0, 1) := by decide +kernel
theorem dX12_judge_35 : decode cX12_judge 35 = .ok (.putfield 223, 3) := by decide +kernel
theorem dX12_judge_38 : decode cX12_judge 38 = .ok (.aload_n 0, 1) := by decide +kernel
theorem dX12_judge_39 : decode cX12_judge 39 = .ok (.getfield 223, 3) := by decide +kernel
theorem dX12_judge_42 : decode cX12_judge 42 = .ok (.ifCond .le 4, 3) := by decide +kernel
theorem dX12_judge_45 : decode cX12_judge 45 = .ok (.return_, 1) := by decide +kernel
theorem dX12_judge_46 : decode cX12_judge 46 = .ok (.iconst 2, 1) := by decide +kernel
theorem dX12_judge_47 : decode cX12_judge 47 = .ok (.iload_n 1, 1) := by decide +kernel
theorem dX12_judge_48 : decode cX12_judge 48 = .ok (.isub, 1) := by decide +kernel
theorem dX12_judge_49 : decode cX12_judge 49 = .ok (.istore_n 2, 1) := by decide +kernel
theorem dX12_judge_50 : decode cX12_judge 50 = .ok (.aload_n 0, 1) := by decide +kernel
theorem dX12_judge_51 : decode cX12_judge 51 = .ok (.getfield 205, 3) := by decide +kernel
theorem dX12_judge_54 : decode cX12_judge 54 = .ok (.iconst 1, 1) := by decide +kernel
theorem dX12_judge_55 : decode cX12_judge 55 = .ok (.iload_n 1, 1) := by decide +kernel
theorem dX12_judge_56 : decode cX12_judge 56 = .ok (.iadd, 1) := by decide +kernel
theorem dX12_judge_57 : decode cX12_judge 57 = .ok (.iconst 0, 1) := by decide +kernel
theorem dX12_judge_58 : decode cX12_judge 58 = .ok (.bastore, 1) := by decide +kernel
theorem dX12_judge_59 : decode cX12_judge 59 = .ok (.aload_n 0, 1) := by decide +kernel
theorem dX12_judge_60 : decode cX12_judge 60 = .ok (.iload_n 2, 1) := by decide +kernel
theorem dX12_judge_61 : decode cX12_judge 61 = .ok (.invokevirtual 368, 3) := by decide +kernel
theorem dX12_judge_64 : decode cX12_judge 64 = .ok (.iconst 1, 1) := by decide +kernel
theorem dX12_judge_65 : decode cX12_judge 65 = .ok (.istore_n 3, 1) := by decide +kernel
theorem dX12_judge_66 : decode cX12_judge 66 = .ok (.iload_n 3, 1) := by decide +kernel
theorem dX12_judge_67 : decode cX12_judge 67 = .ok (.ifCond .eq 143, 3) := by decide +kernel
theorem dX12_judge_70 : decode cX12_judge 70 = .ok (.aload_n 0, 1) := by decide +kernel
theorem dX12_judge_71 : decode cX12_judge 71 = .ok (.iload_n 1, 1) := by decide +kernel
theorem dX12_judge_72 : decode cX12_judge 72 = .ok (.iconst 2, 1) := by decide +kernel
theorem dX12_judge_73 : decode cX12_judge 73 = .ok (.if_icmp .ne 7, 3) := by decide +kernel
theorem dX12_judge_76 : decode cX12_judge 76 = .ok (.iconst 1, 1) := by decide +kernel
theorem dX12_judge_77 : decode cX12_judge 77 = .ok (.goto 4, 3) := by decide +kernel
theorem dX12_judge_80 : decode cX12_judge 80 = .ok (.iconst 0, 1) := by decide +kernel
theorem dX12_judge_81 : decode cX12_judge 81 = .ok (.iload_n 1, 1) := by decide +kernel
theorem dX12_judge_82 : decode cX12_judge 82 = .ok (.iconst 1, 1) := by decide +kernel
theorem dX12_judge_83 : decode cX12_judge 83 = .ok (.if_icmp .ne 7, 3) := by decide +kernel
theorem dX12_judge_86 : decode cX12_judge 86 = .ok (.iconst 1, 1) := by decide +kernel
theorem dX12_judge_87 : decode cX12_judge 87 = .ok (.goto 4, 3) := by decide +kernel
theorem dX12_judge_90 : decode cX12_judge 90 = .ok (.iconst 0, 1) := by decide +kernel
theorem dX12_judge_91 : decode cX12_judge 91 = .ok (.invokevirtual 361, 3) := by decide +kernel
theorem dX12_judge_94 : decode cX12_judge 94 = .ok (.aload_n 0, 1) := by decide +kernel
theorem dX12_judge_95 : decode cX12_judge 95 = .ok (.getfield 205, 3) := by decide +kernel
theorem dX12_judge_98 : decode cX12_judge 98 = .ok (.iconst 1, 1) := by decide +kernel
theorem dX12_judge_99 : decode cX12_judge 99 = .ok (.iload_n 1, 1) := by decide +kernel
theorem dX12_judge_100 : decode cX12_judge 100 = .ok (.iadd, 1) := by decide +kernel
theorem dX12_judge_101 : decode cX12_judge 101 = .ok (.baload, 1) := by decide +kernel
theorem dX12_judge_102 : decode cX12_judge 102 = .ok (.ifCond .eq 22, 3) := by decide +kernel
theorem dX12_judge_105 : decode cX12_judge 105 = .ok (.aload_n 0, 1) := by decide +kernel
theorem dX12_judge_106 : decode cX12_judge 106 = .ok (.sipush 4239, 3) := by decide +kernel
theorem dX12_judge_109 : decode cX12_judge 109 = .ok (.sipush 4231, 3) := by decide +kernel
theorem dX12_judge_112 : decode cX12_judge 112 = .ok (.iconst 2, 1) := by decide +kernel
theorem dX12_judge_113 : decode cX12_judge 113 = .ok (.iconst 1, 1) := by decide +kernel
theorem dX12_judge_114 : decode cX12_judge 114 = .ok (.iload_n 1, 1) := by decide +kernel
theorem dX12_judge_115 : decode cX12_judge 115 = .ok (.iadd, 1) := by decide +kernel
theorem dX12_judge_116 : decode cX12_judge 116 = .ok (.imul, 1) := by decide +kernel
theorem dX12_judge_117 : decode cX12_judge 117 = .ok (.iadd, 1) := by decide +kernel
theorem dX12_judge_118 : decode cX12_judge 118 = .ok (.invokevirtual 371, 3) := by decide +kernel
theorem dX12_judge_121 : decode cX12_judge 121 = .ok (.goto 4, 3) := by decide +kernel
theorem dX12_judge_124 : decode cX12_judge 124 = .ok (.iconst 0, 1) := by decide +kernel
theorem dX12_judge_125 : decode cX12_judge 125 = .ok (.istore 4, 2) := by decide +kernel
theorem dX12_judge_127 : decode cX12_judge 127 = .ok (.aload_n 0, 1) := by decide +kernel
theorem dX12_judge_128 : decode cX12_judge 128 = .ok (.getfield 205, 3) := by decide +kernel
theorem dX12_judge_131 : decode cX12_judge 131 = .ok (.iconst 1, 1) := by decide +kernel
theorem dX12_judge_132 : decode cX12_judge 132 = .ok (.iload_n 1, 1) := by decide +kernel
theorem dX12_judge_133 : decode cX12_judge 133 = .ok (.iadd, 1) := by decide +kernel
theorem dX12_judge_134 : decode cX12_judge 134 = .ok (.baload, 1) := by decide +kernel
theorem dX12_judge_135 : decode cX12_judge 135 = .ok (.ifCond .eq 21, 3) := by decide +kernel
theorem dX12_judge_138 : decode cX12_judge 138 = .ok (.iload_n 1, 1) := by decide +kernel
theorem dX12_judge_139 : decode cX12_judge 139 = .ok (.iconst 1, 1) := by decide +kernel
theorem dX12_judge_140 : decode cX12_judge 140 = .ok (.if_icmp .ne 11, 3) := by decide +kernel
theorem dX12_judge_143 : decode cX12_judge 143 = .ok (.iload 4, 2) := by decide +kernel
theorem dX12_judge_145 : decode cX12_judge 145 = .ok (.ifCond .ge 56, 3) := by decide +kernel
theorem dX12_judge_148 : decode cX12_judge 148 = .ok (.goto 8, 3) := by decide +kernel
theorem dX12_judge_151 : decode cX12_judge 151 = .ok (.iload 4, 2) := by decide +kernel
theorem dX12_judge_153 : decode cX12_judge 153 = .ok (.ifCond .le 48, 3) := by decide +kernel
theorem dX12_judge_156 : decode cX12_judge 156 = .ok (.aload_n 0, 1) := by decide +kernel
theorem dX12_judge_157 : decode cX12_judge 157 = .ok (.iconst 1, 1) := by decide +kernel
theorem dX12_judge_158 : decode cX12_judge 158 = .ok (.iload_n 1, 1) := by decide +kernel
theorem dX12_judge_159 : decode cX12_judge 159 = .ok (.iadd, 1) := by decide +kernel
theorem dX12_judge_160 : decode cX12_judge 160 = .ok (.invokevirtual 365, 3) := by decide +kernel
theorem dX12_judge_163 : decode cX12_judge 163 = .ok (.bipush 10, 2) := by decide +kernel
theorem dX12_judge_165 : decode cX12_judge 165 = .ok (.iload_n 2, 1) := by decide +kernel
theorem dX12_judge_166 : decode cX12_judge 166 = .ok (.imul, 1) := by decide +kernel
theorem dX12_judge_167 : decode cX12_judge 167 = .ok (.istore 5, 2) := by decide +kernel
theorem dX12_judge_169 : decode cX12_judge 169 = .ok (.iload 5, 2) := by decide +kernel
theorem dX12_judge_171 : decode cX12_judge 171 = .ok (.bipush 10, 2) := by decide +kernel
theorem dX12_judge_173 : decode cX12_judge 173 = .ok (.iload_n 2, 1) := by decide +kernel
theorem dX12_judge_174 : decode cX12_judge 174 = .ok (.imul, 1) := by decide +kernel
theorem dX12_judge_175 : decode cX12_judge 175 = .ok (.bipush 10, 2) := by decide +kernel
theorem dX12_judge_177 : decode cX12_judge 177 = .ok (.iadd, 1) := by decide +kernel
theorem dX12_judge_178 : decode cX12_judge 178 = .ok (.if_icmp .ge 23, 3) := by decide +kernel
theorem dX12_judge_181 : decode cX12_judge 181 = .ok (.aload_n 0, 1) := by decide +kernel
theorem dX12_judge_182 : decode cX12_judge 182 = .ok (.getfield 211, 3) := by decide +kernel
theorem dX12_judge_185 : decode cX12_judge 185 = .ok (.iload 5, 2) := by decide +kernel
theorem dX12_judge_187 : decode cX12_judge 187 = .ok (.aload_n 0, 1) := by decide +kernel
theorem dX12_judge_188 : decode cX12_judge 188 = .ok (.getfield 208, 3) := by decide +kernel
theorem dX12_judge_191 : decode cX12_judge 191 = .ok (.iload 5, 2) := by decide +kernel
theorem dX12_judge_193 : decode cX12_judge 193 = .ok (.iaload, 1) := by decide +kernel
theorem dX12_judge_194 : decode cX12_judge 194 = .ok (.iastore, 1) := by decide +kernel
theorem dX12_judge_195 : decode cX12_judge 195 = .ok (.iinc 5 1, 3) := by decide +kernel
theorem dX12_judge_198 : decode cX12_judge 198 = .ok (.goto (-29), 3) := by decide +kernel
theorem dX12_judge_201 : decode cX12_judge 201 = .ok (.aload_n 0, 1) := by decide +kernel
theorem dX12_judge_202 : decode cX12_judge 202 = .ok (.iload_n 2, 1) := by decide +kernel
theorem dX12_judge_203 : decode cX12_judge 203 = .ok (.invokevirtual 374, 3) := by decide +kernel
theorem dX12_judge_206 : decode cX12_judge 206 = .ok (.istore_n 3, 1) := by decide +kernel
theorem dX12_judge_207 : decode cX12_judge 207 = .ok (.goto (-141), 3) := by decide +kernel
theorem dX12_judge_210 : decode cX12_judge 210 = .ok (.return_, 1) := by decide +kernel
set_option maxRecDepth 20000 in
theorem ggX12_reply_X12_isPlayer : GoodIn wsX12_reply wsX12_isPlayer := goodIn_s _ [(8, 2), (20, 58)] rfl (by decide +kernel)
set_option maxRecDepth 20000 in
theorem gX12_reply_X12_isPlayer : GoodIn wsX12_reply (wsV RX12 335 RX12 yX12_isPlayer wsX12_isPlayer) := goodIn_app (goodIn_r _ [4, 5, 6, 7] rfl (by decide +kernel)) ggX12_reply_X12_isPlayer
set_option maxRecDepth 20000 in
theorem ggX12_reply_X12_isSet : GoodIn wsX12_reply wsX12_isSet := goodIn_s _ [(13, 1), (4, 6), (14, 64)] rfl (by decide +kernel)
set_option maxRecDepth 20000 in
theorem gX12_reply_X12_isSet : GoodIn wsX12_reply (wsV RX12 341 RX12 yX12_isSet wsX12_isSet) := goodIn_app (goodIn_r _ [10, 11, 12, 7] rfl (by decide +kernel)) ggX12_reply_X12_isSet
theorem dX12_reply_0 : decode cX12_reply 0 = .ok (.aload_n 0, 1) := by decide +kernel
theorem dX12_reply_1 : decode cX12_reply 1 = .ok (.iconst 0, 1) := by decide +kernel
theorem dX12_reply_2 : decode cX12_reply 2 = .ok (.putfield 223, 3) := by decide +kernel
theorem dX12_reply_5 : decode cX12_reply 5 = .ok (.aload_n 0, 1) := by decide +kernel
theorem dX12_reply_6 : decode cX12_reply 6 = .ok (.iload_n 1, 1) := by decide +kernel
theorem dX12_reply_7 : decode cX12_reply 7 = .ok (.invokevirtual 335, 3) := by decide +kernel
theorem dX12_reply_10 : decode cX12_reply 10 = .ok (.ifCond .eq 41, 3) := by decide +kernel
theorem dX12_reply_13 : decode cX12_reply 13 = .ok (.aload_n 0, 1) := by decide +kernel
theorem dX12_reply_14 : decode cX12_reply 14 = .ok (.getfield 205, 3) := by decide +kernel
theorem dX12_reply_17 : decode cX12_reply 17 = .ok (.iconst 1, 1) := by decide +kernel
theorem dX12_reply_18 : decode cX12_reply 18 = .ok (.iload_n 1, 1) := by decide +kernel
theorem dX12_reply_19 : decode cX12_reply 19 = .ok (.iadd, 1) := by decide +kernel
theorem dX12_reply_20 : decode cX12_reply 20 = .ok (.baload, 1) := by decide +kernel
theorem dX12_reply_21 : decode cX12_reply 21 = .ok (.ifCond .eq 30, 3) := by decide +kernel
theorem dX12_reply_24 : decode cX12_reply 24 = .ok (.aload_n 0, 1) := by decide +kernel
theorem dX12_reply_25 : decode cX12_reply 25 = .ok (.iconst 3, 1) := by decide +kernel
theorem dX12_reply_26 : decode cX12_reply 26 = .ok (.iload_n 1, 1) := by decide +kernel
theorem dX12_reply_27 : decode cX12_reply 27 = .ok (.isub, 1) := by decide +kernel
theorem dX12_reply_28 : decode cX12_reply 28 = .ok (.iload_n 2, 1) := by decide +kernel
theorem dX12_reply_29 : decode cX12_reply 29 = .ok (.invokevirtual 341, 3) := by decide +kernel
theorem dX12_reply_32 : decode cX12_reply 32 = .ok (.ifCond .eq 19, 3) := by decide +kernel
theorem dX12_reply_35 : decode cX12_reply 35 = .ok (.aload_n 0, 1) := by decide +kernel
theorem dX12_reply_36 : decode cX12_reply 36 = .ok (.getfield 211, 3) := by decide +kernel
theorem dX12_reply_39 : decode cX12_reply 39 = .ok (.bipush 10, 2) := by decide +kernel
theorem dX12_reply_41 : decode cX12_reply 41 = .ok (.iconst 2, 1) := by decide +kernel
theorem dX12_reply_42 : decode cX12_reply 42 = .ok (.iload_n 1, 1) := by decide +kernel
theorem dX12_reply_43 : decode cX12_reply 43 = .ok (.isub, 1) := by decide +kernel
theorem dX12_reply_44 : decode cX12_reply 44 = .ok (.imul, 1) := by decide +kernel
theorem dX12_reply_45 : decode cX12_reply 45 = .ok (.iload_n 2, 1) := by decide +kernel
theorem dX12_reply_46 : decode cX12_reply 46 = .ok (.iadd, 1) := by decide +kernel
theorem dX12_reply_47 : decode cX12_reply 47 = .ok (.iaload, 1) := by decide +kernel
theorem dX12_reply_48 : decode cX12_reply 48 = .ok (.goto 4, 3) := by decide +kernel
theorem dX12_reply_51 : decode cX12_reply 51 = .ok (.iconst (-1), 1) := by decide +kernel
theorem dX12_reply_52 : decode cX12_reply 52 = .ok (.ireturn, 1) := by decide +kernel
theorem dX12_cell_0 : decode cX12_cell 0 = .ok (.bipush 65, 2) := by decide +kernel
theorem dX12_cell_2 : decode cX12_cell 2 = .ok (.iload_n 1, 1) := by decide +kernel
theorem dX12_cell_3 : decode cX12_cell 3 = .ok (.imul, 1) := by decide +kernel
theorem dX12_cell_4 : decode cX12_cell 4 = .ok (.iload_n 2, 1) := by decide +kernel
theorem dX12_cell_5 : decode cX12_cell 5 = .ok (.iadd, 1) := by decide +kernel
theorem dX12_cell_6 : decode cX12_cell 6 = .ok (.ireturn, 1) := by decide +kernel
theorem dX12_meet_0 : decode cX12_meet 0 = .ok (.lconst 0, 1) := by decide +kernel
theorem dX12_meet_1 : decode cX12_meet 1 = .ok (.lstore_n 1, 1) := by decide +kernel
theorem dX12_meet_2 : decode cX12_meet 2 = .ok (.sipush 400, 3) := by decide +kernel
theorem dX12_meet_5 : decode cX12_meet 5 = .ok (.aload_n 0, 1) := by decide +kernel
theorem dX12_meet_6 : decode cX12_meet 6 = .ok (.getfield 328, 3) := by decide +kernel
theorem dX12_meet_9 : decode cX12_meet 9 = .ok (.imul, 1) := by decide +kernel
theorem dX12_meet_10 : decode cX12_meet 10 = .ok (.istore_n 3, 1) := by decide +kernel
theorem dX12_meet_11 : decode cX12_meet 11 = .ok (.iload_n 3, 1) := by decide +kernel
theorem dX12_meet_12 : decode cX12_meet 12 = .ok (.sipush 400, 3) := by decide +kernel
theorem dX12_meet_15 : decode cX12_meet 15 = .ok (.aload_n 0, 1) := by decide +kernel
theorem dX12_meet_16 : decode cX12_meet 16 = .ok (.getfield 328, 3) := by decide +kernel
theorem dX12_meet_19 : decode cX12_meet 19 = .ok (.imul, 1) := by decide +kernel
theorem dX12_meet_20 : decode cX12_meet 20 = .ok (.aload_n 0, 1) := by decide +kernel
theorem dX12_meet_21 : decode cX12_meet 21 = .ok (.getfield 117, 3) := by decide +kernel
theorem dX12_meet_24 : decode cX12_meet 24 = .ok (.aload_n 0, 1) := by decide +kernel
theorem dX12_meet_25 : decode cX12_meet 25 = .ok (.getfield 328, 3) := by decide +kernel
theorem dX12_meet_28 : decode cX12_meet 28 = .ok (.iaload, 1) := by decide +kernel
theorem dX12_meet_29 : decode cX12_meet 29 = .ok (.iadd, 1) := by decide +kernel
theorem dX12_meet_30 : decode cX12_meet 30 = .ok (.if_icmp .ge 96, 3) := by decide +kernel
theorem dX12_meet_33 : decode cX12_meet 33 = .ok (.iconst 1, 1) := by decide +kernel
theorem dX12_meet_34 : decode cX12_meet 34 = .ok (.istore 4, 2) := by decide +kernel
theorem dX12_meet_36 : decode cX12_meet 36 = .ok (.aload_n 0, 1) := by decide +kernel
theorem dX12_meet_37 : decode cX12_meet 37 = .ok (.getfield 136, 3) := by decide +kernel
theorem dX12_meet_40 : decode cX12_meet 40 = .ok (.iload_n 3, 1) := by decide +kernel
theorem dX12_meet_41 : decode cX12_meet 41 = .ok (.iaload, 1) := by decide +kernel
theorem dX12_meet_42 : decode cX12_meet 42 = .ok (.istore 5, 2) := by decide +kernel
theorem dX12_meet_44 : decode cX12_meet 44 = .ok (.iload 5, 2) := by decide +kernel
theorem dX12_meet_46 : decode cX12_meet 46 = .ok (.aload_n 0, 1) := by decide +kernel
theorem dX12_meet_47 : decode cX12_meet 47 = .ok (.getfield 136, 3) := by decide +kernel
theorem dX12_meet_50 : decode cX12_meet 50 = .ok (.iload_n 3, 1) := by decide +kernel
theorem dX12_meet_51 : decode cX12_meet 51 = .ok (.iaload, 1) := by decide +kernel
theorem dX12_meet_52 : decode cX12_meet 52 = .ok (.aload_n 0, 1) := by decide +kernel
theorem dX12_meet_53 : decode cX12_meet 53 = .ok (.getfield 139, 3) := by decide +kernel
theorem dX12_meet_56 : decode cX12_meet 56 = .ok (.iload_n 3, 1) := by decide +kernel
theorem dX12_meet_57 : decode cX12_meet 57 = .ok (.iaload, 1) := by decide +kernel
theorem dX12_meet_58 : decode cX12_meet 58 = .ok (.iadd, 1) := by decide +kernel
theorem dX12_meet_59 : decode cX12_meet 59 = .ok (.if_icmp .ge 43, 3) := by decide +kernel
theorem dX12_meet_62 : decode cX12_meet 62 = .ok (.iload 4, 2) := by decide +kernel
theorem dX12_meet_64 : decode cX12_meet 64 = .ok (.ifCond .eq 29, 3) := by decide +kernel
theorem dX12_meet_67 : decode cX12_meet 67 = .ok (.aload_n 0, 1) := by decide +kernel
theorem dX12_meet_68 : decode cX12_meet 68 = .ok (.getfield 208, 3) := by decide +kernel
theorem dX12_meet_71 : decode cX12_meet 71 = .ok (.aload_n 0, 1) := by decide +kernel
theorem dX12_meet_72 : decode cX12_meet 72 = .ok (.getfield 142, 3) := by decide +kernel
theorem dX12_meet_75 : decode cX12_meet 75 = .ok (.iload 5, 2) := by decide +kernel
theorem dX12_meet_77 : decode cX12_meet 77 = .ok (.iaload, 1) := by decide +kernel
theorem dX12_meet_78 : decode cX12_meet 78 = .ok (.iaload, 1) := by decide +kernel
theorem dX12_meet_79 : decode cX12_meet 79 = .ok (.aload_n 0, 1) := by decide +kernel
theorem dX12_meet_80 : decode cX12_meet 80 = .ok (.getfield 145, 3) := by decide +kernel
theorem dX12_meet_83 : decode cX12_meet 83 = .ok (.iload 5, 2) := by decide +kernel
theorem dX12_meet_85 : decode cX12_meet 85 = .ok (.iaload, 1) := by decide +kernel
theorem dX12_meet_86 : decode cX12_meet 86 = .ok (.if_icmp .ne 7, 3) := by decide +kernel
theorem dX12_meet_89 : decode cX12_meet 89 = .ok (.iconst 1, 1) := by decide +kernel
theorem dX12_meet_90 : decode cX12_meet 90 = .ok (.goto 4, 3) := by decide +kernel
theorem dX12_meet_93 : decode cX12_meet 93 = .ok (.iconst 0, 1) := by decide +kernel
theorem dX12_meet_94 : decode cX12_meet 94 = .ok (.istore 4, 2) := by decide +kernel
theorem dX12_meet_96 : decode cX12_meet 96 = .ok (.iinc 5 1, 3) := by decide +kernel
theorem dX12_meet_99 : decode cX12_meet 99 = .ok (.goto (-55), 3) := by decide +kernel
theorem dX12_meet_102 : decode cX12_meet 102 = .ok (.iload 4, 2) := by decide +kernel
theorem dX12_meet_104 : decode cX12_meet 104 = .ok (.ifCond .eq 14, 3) := by decide +kernel
theorem dX12_meet_107 : decode cX12_meet 107 = .ok (.lload_n 1, 1) := by decide +kernel
theorem dX12_meet_108 : decode cX12_meet 108 = .ok (.aload_n 0, 1) := by decide +kernel
theorem dX12_meet_109 : decode cX12_meet 109 = .ok (.getfield 133, 3) := by decide +kernel
theorem dX12_meet_112 : decode cX12_meet 112 = .ok (.iload_n 3, 1) := by decide +kernel
theorem dX12_meet_113 : decode cX12_meet 113 = .ok (.laload, 1) := by decide +kernel
theorem dX12_meet_114 : decode cX12_meet 114 = .ok (.ladd, 1) := by decide +kernel
theorem dX12_meet_115 : decode cX12_meet 115 = .ok (.goto 4, 3) := by decide +kernel
theorem dX12_meet_118 : decode cX12_meet 118 = .ok (.lload_n 1, 1) := by decide +kernel
theorem dX12_meet_119 : decode cX12_meet 119 = .ok (.lstore_n 1, 1) := by decide +kernel
theorem dX12_meet_120 : decode cX12_meet 120 = .ok (.iinc 3 1, 3) := by decide +kernel
theorem dX12_meet_123 : decode cX12_meet 123 = .ok (.goto (-112), 3) := by decide +kernel
theorem dX12_meet_126 : decode cX12_meet 126 = .ok (.lload_n 1, 1) := by decide +kernel
theorem dX12_meet_127 : decode cX12_meet 127 = .ok (.lreturn, 1) := by decide +kernel
set_option maxRecDepth 20000 in
theorem ggX12_fill_X12_firstPlan : GoodIn wsX12_fill wsX12_firstPlan := goodIn_s _ [(5, 2), (48, 58)] rfl (by decide +kernel)
set_option maxRecDepth 20000 in
theorem gX12_fill_X12_firstPlan : GoodIn wsX12_fill (wsV RX12 368 RX12 yX12_firstPlan wsX12_firstPlan) := goodIn_app (goodIn_r _ [1, 2, 3, 4] rfl (by decide +kernel)) ggX12_fill_X12_firstPlan
set_option maxRecDepth 20000 in
theorem ggX12_fill_X12_meet : GoodIn wsX12_fill wsX12_meet := goodIn_s _ [(10, 5), (6, 1), (15, 3), (48, 58)] rfl (by decide +kernel)
set_option maxRecDepth 20000 in
theorem gX12_fill_X12_meet : GoodIn wsX12_fill (wsV RX12 377 RX12 yX12_meet wsX12_meet) := goodIn_app (goodIn_r _ [7, 8, 9, 4] rfl (by decide +kernel)) ggX12_fill_X12_meet
set_option maxRecDepth 20000 in
theorem ggX12_fill_X12_cell : GoodIn wsX12_fill wsX12_cell := goodIn_r _ [21] rfl (by decide +kernel)
set_option maxRecDepth 20000 in
theorem gX12_fill_X12_cell : GoodIn wsX12_fill (wsV RX12 381 RX12 yX12_cell wsX12_cell) := goodIn_app (goodIn_r _ [18, 19, 20, 4] rfl (by decide +kernel)) ggX12_fill_X12_cell
set_option maxRecDepth 20000 in
theorem ggX12_fill_X12_bigSet : GoodIn wsX12_fill wsX12_bigSet := goodIn_s _ [(25, 7), (4, 1), (32, 2), (48, 58)] rfl (by decide +kernel)
set_option maxRecDepth 20000 in
theorem gX12_fill_X12_bigSet : GoodIn wsX12_fill (wsV RX12 65 RX12 yX12_bigSet wsX12_bigSet) := goodIn_app (goodIn_r _ [22, 23, 24, 4] rfl (by decide +kernel)) ggX12_fill_X12_bigSet
set_option maxRecDepth 20000 in
theorem ggX12_fill_X12_nextPlan : GoodIn wsX12_fill wsX12_nextPlan := goodIn_s _ [(37, 1), (6, 1), (38, 3), (4, 1), (41, 2), (11, 1), (43, 63)] rfl (by decide +kernel)
set_option maxRecDepth 20000 in
theorem gX12_fill_X12_nextPlan : GoodIn wsX12_fill (wsV RX12 374 RX12 yX12_nextPlan wsX12_nextPlan) := goodIn_app (goodIn_r _ [34, 35, 36, 4] rfl (by decide +kernel)) ggX12_fill_X12_nextPlan
theorem dX12_fill_0 : decode cX12_fill 0 = .ok (.lconst 0, 1) := by decide +kernel
theorem dX12_fill_1 : decode cX12_fill 1 = .ok (.lstore_n 3, 1) := by decide +kernel
theorem dX12_fill_2 : decode cX12_fill 2 = .ok (.iconst 0, 1) := by decide +kernel
theorem dX12_fill_3 : decode cX12_fill 3 = .ok (.istore 5, 2) := by decide +kernel
theorem dX12_fill_5 : decode cX12_fill 5 = .ok (.iload 5, 2) := by decide +kernel
theorem dX12_fill_7 : decode cX12_fill 7 = .ok (.iconst 2, 1) := by decide +kernel
theorem dX12_fill_8 : decode cX12_fill 8 = .ok (.if_icmp .ge 109, 3) := by decide +kernel
theorem dX12_fill_11 : decode cX12_fill 11 = .ok (.aload_n 0, 1) := by decide +kernel
theorem dX12_fill_12 : decode cX12_fill 12 = .ok (.iconst 0, 1) := by decide +kernel
theorem dX12_fill_13 : decode cX12_fill 13 = .ok (.invokevirtual 368, 3) := by decide +kernel
theorem dX12_fill_16 : decode cX12_fill 16 = .ok (.iconst 0, 1) := by decide +kernel
theorem dX12_fill_17 : decode cX12_fill 17 = .ok (.istore 6, 2) := by decide +kernel
theorem dX12_fill_19 : decode cX12_fill 19 = .ok (.iload 6, 2) := by decide +kernel
theorem dX12_fill_21 : decode cX12_fill 21 = .ok (.iload_n 1, 1) := by decide +kernel
theorem dX12_fill_22 : decode cX12_fill 22 = .ok (.if_icmp .ge 89, 3) := by decide +kernel
theorem dX12_fill_25 : decode cX12_fill 25 = .ok (.aload_n 0, 1) := by decide +kernel
theorem dX12_fill_26 : decode cX12_fill 26 = .ok (.iconst 1, 1) := by decide +kernel
theorem dX12_fill_27 : decode cX12_fill 27 = .ok (.invokevirtual 368, 3) := by decide +kernel
theorem dX12_fill_30 : decode cX12_fill 30 = .ok (.iconst 0, 1) := by decide +kernel
theorem dX12_fill_31 : decode cX12_fill 31 = .ok (.istore 7, 2) := by decide +kernel
theorem dX12_fill_33 : decode cX12_fill 33 = .ok (.iload 7, 2) := by decide +kernel
theorem dX12_fill_35 : decode cX12_fill 35 = .ok (.iload_n 2, 1) := by decide +kernel
theorem dX12_fill_36 : decode cX12_fill 36 = .ok (.if_icmp .ge 62, 3) := by decide +kernel
theorem dX12_fill_39 : decode cX12_fill 39 = .ok (.aload_n 0, 1) := by decide +kernel
theorem dX12_fill_40 : decode cX12_fill 40 = .ok (.invokevirtual 377, 3) := by decide +kernel
theorem dX12_fill_43 : decode cX12_fill 43 = .ok (.lstore 8, 2) := by decide +kernel
theorem dX12_fill_45 : decode cX12_fill 45 = .ok (.iload 5, 2) := by decide +kernel
theorem dX12_fill_47 : decode cX12_fill 47 = .ok (.ifCond .ne 20, 3) := by decide +kernel
theorem dX12_fill_50 : decode cX12_fill 50 = .ok (.lload 8, 2) := by decide +kernel
theorem dX12_fill_52 : decode cX12_fill 52 = .ok (.lload_n 3, 1) := by decide +kernel
theorem dX12_fill_53 : decode cX12_fill 53 = .ok (.lcmp, 1) := by decide +kernel
theorem dX12_fill_54 : decode cX12_fill 54 = .ok (.ifCond .ge 8, 3) := by decide +kernel
theorem dX12_fill_57 : decode cX12_fill 57 = .ok (.lload 8, 2) := by decide +kernel
theorem dX12_fill_59 : decode cX12_fill 59 = .ok (.goto 4, 3) := by decide +kernel
theorem dX12_fill_62 : decode cX12_fill 62 = .ok (.lload_n 3, 1) := by decide +kernel
theorem dX12_fill_63 : decode cX12_fill 63 = .ok (.lstore_n 3, 1) := by decide +kernel
theorem dX12_fill_64 : decode cX12_fill 64 = .ok (.goto 21, 3) := by decide +kernel
theorem dX12_fill_67 : decode cX12_fill 67 = .ok (.aload_n 0, 1) := by decide +kernel
theorem dX12_fill_68 : decode cX12_fill 68 = .ok (.aload_n 0, 1) := by decide +kernel
theorem dX12_fill_69 : decode cX12_fill 69 = .ok (.iload 6, 2) := by decide +kernel
theorem dX12_fill_71 : decode cX12_fill 71 = .ok (.iload 7, 2) := by decide +kernel
theorem dX12_fill_73 : decode cX12_fill 73 = .ok (.invokevirtual 381, 3) := by decide +kernel
theorem dX12_fill_76 : decode cX12_fill 76 = .ok (.lload 8, 2) := by decide +kernel
theorem dX12_fill_78 : decode cX12_fill 78 = .ok (.lconst 1, 1) := by decide +kernel
theorem dX12_fill_79 : decode cX12_fill 79 = .ok (.ladd, 1) := by decide +kernel
theorem dX12_fill_80 : decode cX12_fill 80 = .ok (.lload_n 3, 1) := by decide +kernel
theorem dX12_fill_81 : decode cX12_fill 81 = .ok (.lsub, 1) := by decide +kernel
theorem dX12_fill_82 : decode cX12_fill 82 = .ok (.invokevirtual 65, 3) := by decide +kernel
theorem dX12_fill_85 : decode cX12_fill 85 = .ok (.aload_n 0, 1) := by decide +kernel
theorem dX12_fill_86 : decode cX12_fill 86 = .ok (.iconst 1, 1) := by decide +kernel
theorem dX12_fill_87 : decode cX12_fill 87 = .ok (.invokevirtual 374, 3) := by decide +kernel
theorem dX12_fill_90 : decode cX12_fill 90 = .ok (.istore 10, 2) := by decide +kernel
theorem dX12_fill_92 : decode cX12_fill 92 = .ok (.iinc 7 1, 3) := by decide +kernel
theorem dX12_fill_95 : decode cX12_fill 95 = .ok (.goto (-62), 3) := by decide +kernel
theorem dX12_fill_98 : decode cX12_fill 98 = .ok (.aload_n 0, 1) := by decide +kernel
theorem dX12_fill_99 : decode cX12_fill 99 = .ok (.iconst 0, 1) := by decide +kernel
theorem dX12_fill_100 : decode cX12_fill 100 = .ok (.invokevirtual 374, 3) := by decide +kernel
theorem dX12_fill_103 : decode cX12_fill 103 = .ok (.istore 7, 2) := by decide +kernel
theorem dX12_fill_105 : decode cX12_fill 105 = .ok (.iinc 6 1, 3) := by decide +kernel
theorem dX12_fill_108 : decode cX12_fill 108 = .ok (.goto (-89), 3) := by decide +kernel
theorem dX12_fill_111 : decode cX12_fill 111 = .ok (.iinc 5 1, 3) := by decide +kernel
theorem dX12_fill_114 : decode cX12_fill 114 = .ok (.goto (-109), 3) := by decide +kernel
theorem dX12_fill_117 : decode cX12_fill 117 = .ok (.lconst 1, 1) := by decide +kernel
theorem dX12_fill_118 : decode cX12_fill 118 = .ok (.lload_n 3, 1) := by decide +kernel
theorem dX12_fill_119 : decode cX12_fill 119 = .ok (.lsub, 1) := by decide +kernel
theorem dX12_fill_120 : decode cX12_fill 120 = .ok (.lreturn, 1) := by decide +kernel
set_option maxRecDepth 20000 in
theorem ggX12_work_X12_cell : GoodIn wsX12_work wsX12_cell := goodIn_r _ [8] rfl (by decide +kernel)
set_option maxRecDepth 20000 in
theorem gX12_work_X12_cell : GoodIn wsX12_work (wsV RX12 381 RX12 yX12_cell wsX12_cell) := goodIn_app (goodIn_r _ [4, 5, 6, 7] rfl (by decide +kernel)) ggX12_work_X12_cell
set_option maxRecDepth 20000 in
theorem ggX12_work_X12_bigSet : GoodIn wsX12_work wsX12_bigSet := goodIn_s _ [(12, 7), (7, 1), (19, 2), (107, 58)] rfl (by decide +kernel)
set_option maxRecDepth 20000 in
theorem gX12_work_X12_bigSet : GoodIn wsX12_work (wsV RX12 65 RX12 yX12_bigSet wsX12_bigSet) := goodIn_app (goodIn_r _ [9, 10, 11, 7] rfl (by decide +kernel)) ggX12_work_X12_bigSet
set_option maxRecDepth 20000 in
theorem ggX12_work_X12_gaining : GoodIn wsX12_work wsX12_gaining := goodIn_s _ [(24, 1), (3, 6), (25, 4), (16, 1), (13, 1), (107, 58)] rfl (by decide +kernel)
set_option maxRecDepth 20000 in
theorem gX12_work_X12_gaining : GoodIn wsX12_work (wsV RX12 386 RX12 yX12_gaining wsX12_gaining) := goodIn_app (goodIn_r _ [21, 22, 23, 7] rfl (by decide +kernel)) ggX12_work_X12_gaining
set_option maxRecDepth 20000 in
theorem ggX12_work_X12_rowFor : GoodIn wsX12_work wsX12_rowFor := goodIn_s _ [(32, 1), (1, 1), (4, 5), (25, 4), (16, 1), (13, 1), (33, 4), (14, 1), (37, 1), (17, 4), (38, 16), (107, 58)] rfl (by decide +kernel)
