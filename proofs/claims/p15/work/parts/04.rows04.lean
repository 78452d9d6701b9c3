set_option maxRecDepth 20000 in
theorem gX5_goThroughNode_X5_goThroughChoice : GoodIn wsX5_goThroughNode (wsV RX5 121 RX5 yX5_goThroughChoice wsX5_goThroughChoice) := goodIn_app (goodIn_r _ [62, 63, 64, 9] rfl (by decide +kernel)) ggX5_goThroughNode_X5_goThroughChoice
theorem dX5_goThroughNode_0 : decode cX5_goThroughNode 0 = .ok (.aload_n 0, 1) := by decide +kernel
theorem dX5_goThroughNode_1 : decode cX5_goThroughNode 1 = .ok (.getfield 28, 3) := by decide +kernel
theorem dX5_goThroughNode_4 : decode cX5_goThroughNode 4 = .ok (.getfield 111, 3) := by decide +kernel
theorem dX5_goThroughNode_7 : decode cX5_goThroughNode 7 = .ok (.iconst 0, 1) := by decide +kernel
theorem dX5_goThroughNode_8 : decode cX5_goThroughNode 8 = .ok (.iaload, 1) := by decide +kernel
theorem dX5_goThroughNode_9 : decode cX5_goThroughNode 9 = .ok (.sipush 400, 3) := by decide +kernel
theorem dX5_goThroughNode_12 : decode cX5_goThroughNode 12 = .ok (.if_icmp .ge 9, 3) := by decide +kernel
theorem dX5_goThroughNode_15 : decode cX5_goThroughNode 15 = .ok (.iload_n 1, 1) := by decide +kernel
theorem dX5_goThroughNode_16 : decode cX5_goThroughNode 16 = .ok (.bipush 20, 2) := by decide +kernel
theorem dX5_goThroughNode_18 : decode cX5_goThroughNode 18 = .ok (.if_icmp .le 16, 3) := by decide +kernel
theorem dX5_goThroughNode_21 : decode cX5_goThroughNode 21 = .ok (.aload_n 0, 1) := by decide +kernel
theorem dX5_goThroughNode_22 : decode cX5_goThroughNode 22 = .ok (.iconst 2, 1) := by decide +kernel
theorem dX5_goThroughNode_23 : decode cX5_goThroughNode 23 = .ok (.aload_n 0, 1) := by decide +kernel
theorem dX5_goThroughNode_24 : decode cX5_goThroughNode 24 = .ok (.getfield 21, 3) := by decide +kernel
theorem dX5_goThroughNode_27 : decode cX5_goThroughNode 27 = .ok (.getfield 74, 3) := by decide +kernel
theorem dX5_goThroughNode_30 : decode cX5_goThroughNode 30 = .ok (.invokevirtual 77, 3) := by decide +kernel
theorem dX5_goThroughNode_33 : decode cX5_goThroughNode 33 = .ok (.ireturn, 1) := by decide +kernel
theorem dX5_goThroughNode_34 : decode cX5_goThroughNode 34 = .ok (.aload_n 0, 1) := by decide +kernel
theorem dX5_goThroughNode_35 : decode cX5_goThroughNode 35 = .ok (.getfield 28, 3) := by decide +kernel
theorem dX5_goThroughNode_38 : decode cX5_goThroughNode 38 = .ok (.getfield 111, 3) := by decide +kernel
theorem dX5_goThroughNode_41 : decode cX5_goThroughNode 41 = .ok (.iconst 0, 1) := by decide +kernel
theorem dX5_goThroughNode_42 : decode cX5_goThroughNode 42 = .ok (.dup2, 1) := by decide +kernel
theorem dX5_goThroughNode_43 : decode cX5_goThroughNode 43 = .ok (.iaload, 1) := by decide +kernel
theorem dX5_goThroughNode_44 : decode cX5_goThroughNode 44 = .ok (.iconst 1, 1) := by decide +kernel
theorem dX5_goThroughNode_45 : decode cX5_goThroughNode 45 = .ok (.iadd, 1) := by decide +kernel
theorem dX5_goThroughNode_46 : decode cX5_goThroughNode 46 = .ok (.iastore, 1) := by decide +kernel
theorem dX5_goThroughNode_47 : decode cX5_goThroughNode 47 = .ok (.aload_n 0, 1) := by decide +kernel
theorem dX5_goThroughNode_48 : decode cX5_goThroughNode 48 = .ok (.getfield 21, 3) := by decide +kernel
theorem dX5_goThroughNode_51 : decode cX5_goThroughNode 51 = .ok (.getfield 88, 3) := by decide +kernel
theorem dX5_goThroughNode_54 : decode cX5_goThroughNode 54 = .ok (.lookupswitch 51 #[(63, 38), (91, 26)], 26) := by decide +kernel
theorem dX5_goThroughNode_80 : decode cX5_goThroughNode 80 = .ok (.aload_n 0, 1) := by decide +kernel
theorem dX5_goThroughNode_81 : decode cX5_goThroughNode 81 = .ok (.lload_n 2, 1) := by decide +kernel
theorem dX5_goThroughNode_82 : decode cX5_goThroughNode 82 = .ok (.lload 4, 2) := by decide +kernel
theorem dX5_goThroughNode_84 : decode cX5_goThroughNode 84 = .ok (.iload 6, 2) := by decide +kernel
theorem dX5_goThroughNode_86 : decode cX5_goThroughNode 86 = .ok (.iload 7, 2) := by decide +kernel
theorem dX5_goThroughNode_88 : decode cX5_goThroughNode 88 = .ok (.invokevirtual 114, 3) := by decide +kernel
theorem dX5_goThroughNode_91 : decode cX5_goThroughNode 91 = .ok (.ireturn, 1) := by decide +kernel
theorem dX5_goThroughNode_92 : decode cX5_goThroughNode 92 = .ok (.aload_n 0, 1) := by decide +kernel
theorem dX5_goThroughNode_93 : decode cX5_goThroughNode 93 = .ok (.iload_n 1, 1) := by decide +kernel
theorem dX5_goThroughNode_94 : decode cX5_goThroughNode 94 = .ok (.lload_n 2, 1) := by decide +kernel
theorem dX5_goThroughNode_95 : decode cX5_goThroughNode 95 = .ok (.lload 4, 2) := by decide +kernel
theorem dX5_goThroughNode_97 : decode cX5_goThroughNode 97 = .ok (.iload 6, 2) := by decide +kernel
theorem dX5_goThroughNode_99 : decode cX5_goThroughNode 99 = .ok (.iload 7, 2) := by decide +kernel
theorem dX5_goThroughNode_101 : decode cX5_goThroughNode 101 = .ok (.invokevirtual 118, 3) := by decide +kernel
theorem dX5_goThroughNode_104 : decode cX5_goThroughNode 104 = .ok (.ireturn, 1) := by decide +kernel
theorem dX5_goThroughNode_105 : decode cX5_goThroughNode 105 = .ok (.aload_n 0, 1) := by decide +kernel
theorem dX5_goThroughNode_106 : decode cX5_goThroughNode 106 = .ok (.iload_n 1, 1) := by decide +kernel
theorem dX5_goThroughNode_107 : decode cX5_goThroughNode 107 = .ok (.lload_n 2, 1) := by decide +kernel
theorem dX5_goThroughNode_108 : decode cX5_goThroughNode 108 = .ok (.lload 4, 2) := by decide +kernel
theorem dX5_goThroughNode_110 : decode cX5_goThroughNode 110 = .ok (.iload 6, 2) := by decide +kernel
theorem dX5_goThroughNode_112 : decode cX5_goThroughNode 112 = .ok (.iload 7, 2) := by decide +kernel
theorem dX5_goThroughNode_114 : decode cX5_goThroughNode 114 = .ok (.invokevirtual 121, 3) := by decide +kernel
theorem dX5_goThroughNode_117 : decode cX5_goThroughNode 117 = .ok (.ireturn, 1) := by decide +kernel
set_option maxRecDepth 20000 in
theorem ggX5_goThroughEnd_X5_refuse : GoodIn wsX5_goThroughEnd wsX5_refuse := goodIn_s _ [(20, 3), (55, 13)] rfl (by decide +kernel)
set_option maxRecDepth 20000 in
theorem gX5_goThroughEnd_X5_refuse : GoodIn wsX5_goThroughEnd (wsV RX5 77 RX5 yX5_refuse wsX5_refuse) := goodIn_app (goodIn_r _ [16, 17, 18, 19] rfl (by decide +kernel)) ggX5_goThroughEnd_X5_refuse
set_option maxRecDepth 20000 in
theorem ggX5_goThroughEnd_X10_advance : GoodIn wsX5_goThroughEnd wsX10_advance := goodIn_s _ [(27, 9), (26, 1), (36, 5), (68, 6)] rfl (by decide +kernel)
set_option maxRecDepth 20000 in
theorem gX5_goThroughEnd_X10_advance : GoodIn wsX5_goThroughEnd (wsV RX5 95 RX10 yX10_advance wsX10_advance) := goodIn_app (goodIn_r _ [23, 24, 25, 26] rfl (by decide +kernel)) ggX5_goThroughEnd_X10_advance
set_option maxRecDepth 20000 in
theorem ggX5_goThroughEnd_X5_goThroughFraction : GoodIn wsX5_goThroughEnd wsX5_goThroughFraction := goodIn_s _ [(44, 1), (2, 2), (45, 2), (11, 1), (10, 1), (23, 18), (16, 7), (47, 5), (8, 1), (52, 22)] rfl (by decide +kernel)
set_option maxRecDepth 20000 in
theorem gX5_goThroughEnd_X5_goThroughFraction : GoodIn wsX5_goThroughEnd (wsV RX5 126 RX5 yX5_goThroughFraction wsX5_goThroughFraction) := goodIn_app (goodIn_r _ [41, 42, 43, 19] rfl (by decide +kernel)) ggX5_goThroughEnd_X5_goThroughFraction
set_option maxRecDepth 20000 in
theorem ggX5_goThroughEnd_X11_gcd : GoodIn wsX5_goThroughEnd wsX11_gcd := goodIn_r _ [49, 50, 51, 8, 52] rfl (by decide +kernel)
set_option maxRecDepth 20000 in
theorem gX5_goThroughEnd_X11_gcd_n136 : GoodIn wsX5_goThroughEnd (wsX11_gcd) := ggX5_goThroughEnd_X11_gcd
set_option maxRecDepth 20000 in
theorem ggX5_goThroughEnd_X11_quotient : GoodIn wsX5_goThroughEnd wsX11_quotient := goodIn_r _ [54] rfl (by decide +kernel)
set_option maxRecDepth 20000 in
theorem gX5_goThroughEnd_X11_quotient_n140 : GoodIn wsX5_goThroughEnd (wsX11_quotient) := ggX5_goThroughEnd_X11_quotient
theorem dX5_goThroughEnd_0 : decode cX5_goThroughEnd 0 = .ok (.lload_n 3, 1) := by decide +kernel
theorem dX5_goThroughEnd_1 : decode cX5_goThroughEnd 1 = .ok (.ldc2_w 124, 3) := by decide +kernel
theorem dX5_goThroughEnd_4 : decode cX5_goThroughEnd 4 = .ok (.lcmp, 1) := by decide +kernel
theorem dX5_goThroughEnd_5 : decode cX5_goThroughEnd 5 = .ok (.ifCond .lt 17, 3) := by decide +kernel
theorem dX5_goThroughEnd_8 : decode cX5_goThroughEnd 8 = .ok (.aload_n 0, 1) := by decide +kernel
theorem dX5_goThroughEnd_9 : decode cX5_goThroughEnd 9 = .ok (.bipush 6, 2) := by decide +kernel
theorem dX5_goThroughEnd_11 : decode cX5_goThroughEnd 11 = .ok (.aload_n 0, 1) := by decide +kernel
theorem dX5_goThroughEnd_12 : decode cX5_goThroughEnd 12 = .ok (.getfield 21, 3) := by decide +kernel
theorem dX5_goThroughEnd_15 : decode cX5_goThroughEnd 15 = .ok (.getfield 74, 3) := by decide +kernel
theorem dX5_goThroughEnd_18 : decode cX5_goThroughEnd 18 = .ok (.invokevirtual 77, 3) := by decide +kernel
theorem dX5_goThroughEnd_21 : decode cX5_goThroughEnd 21 = .ok (.ireturn, 1) := by decide +kernel
theorem dX5_goThroughEnd_22 : decode cX5_goThroughEnd 22 = .ok (.aload_n 0, 1) := by decide +kernel
theorem dX5_goThroughEnd_23 : decode cX5_goThroughEnd 23 = .ok (.getfield 21, 3) := by decide +kernel
theorem dX5_goThroughEnd_26 : decode cX5_goThroughEnd 26 = .ok (.invokevirtual 95, 3) := by decide +kernel
theorem dX5_goThroughEnd_29 : decode cX5_goThroughEnd 29 = .ok (.aload_n 0, 1) := by decide +kernel
theorem dX5_goThroughEnd_30 : decode cX5_goThroughEnd 30 = .ok (.iconst 0, 1) := by decide +kernel
theorem dX5_goThroughEnd_31 : decode cX5_goThroughEnd 31 = .ok (.invokevirtual 126, 3) := by decide +kernel
theorem dX5_goThroughEnd_34 : decode cX5_goThroughEnd 34 = .ok (.ifCond .ne 5, 3) := by decide +kernel
theorem dX5_goThroughEnd_37 : decode cX5_goThroughEnd 37 = .ok (.iconst 0, 1) := by decide +kernel
theorem dX5_goThroughEnd_38 : decode cX5_goThroughEnd 38 = .ok (.ireturn, 1) := by decide +kernel
theorem dX5_goThroughEnd_39 : decode cX5_goThroughEnd 39 = .ok (.aload_n 0, 1) := by decide +kernel
theorem dX5_goThroughEnd_40 : decode cX5_goThroughEnd 40 = .ok (.getfield 21, 3) := by decide +kernel
theorem dX5_goThroughEnd_43 : decode cX5_goThroughEnd 43 = .ok (.invokevirtual 95, 3) := by decide +kernel
theorem dX5_goThroughEnd_46 : decode cX5_goThroughEnd 46 = .ok (.aload_n 0, 1) := by decide +kernel
theorem dX5_goThroughEnd_47 : decode cX5_goThroughEnd 47 = .ok (.getfield 28, 3) := by decide +kernel
theorem dX5_goThroughEnd_50 : decode cX5_goThroughEnd 50 = .ok (.getfield 111, 3) := by decide +kernel
theorem dX5_goThroughEnd_53 : decode cX5_goThroughEnd 53 = .ok (.iconst 1, 1) := by decide +kernel
theorem dX5_goThroughEnd_54 : decode cX5_goThroughEnd 54 = .ok (.iaload, 1) := by decide +kernel
theorem dX5_goThroughEnd_55 : decode cX5_goThroughEnd 55 = .ok (.sipush 399, 3) := by decide +kernel
theorem dX5_goThroughEnd_58 : decode cX5_goThroughEnd 58 = .ok (.invokestatic 130, 3) := by decide +kernel
theorem dX5_goThroughEnd_61 : decode cX5_goThroughEnd 61 = .ok (.istore 7, 2) := by decide +kernel
theorem dX5_goThroughEnd_63 : decode cX5_goThroughEnd 63 = .ok (.lload_n 1, 1) := by decide +kernel
theorem dX5_goThroughEnd_64 : decode cX5_goThroughEnd 64 = .ok (.aload_n 0, 1) := by decide +kernel
theorem dX5_goThroughEnd_65 : decode cX5_goThroughEnd 65 = .ok (.getfield 47, 3) := by decide +kernel
theorem dX5_goThroughEnd_68 : decode cX5_goThroughEnd 68 = .ok (.invokestatic 136, 3) := by decide +kernel
theorem dX5_goThroughEnd_71 : decode cX5_goThroughEnd 71 = .ok (.lstore 8, 2) := by decide +kernel
theorem dX5_goThroughEnd_73 : decode cX5_goThroughEnd 73 = .ok (.aload_n 0, 1) := by decide +kernel
theorem dX5_goThroughEnd_74 : decode cX5_goThroughEnd 74 = .ok (.getfield 43, 3) := by decide +kernel
theorem dX5_goThroughEnd_77 : decode cX5_goThroughEnd 77 = .ok (.lload_n 3, 1) := by decide +kernel
theorem dX5_goThroughEnd_78 : decode cX5_goThroughEnd 78 = .ok (.invokestatic 136, 3) := by decide +kernel
theorem dX5_goThroughEnd_81 : decode cX5_goThroughEnd 81 = .ok (.lstore 10, 2) := by decide +kernel
theorem dX5_goThroughEnd_83 : decode cX5_goThroughEnd 83 = .ok (.aload_n 0, 1) := by decide +kernel
theorem dX5_goThroughEnd_84 : decode cX5_goThroughEnd 84 = .ok (.getfield 50, 3) := by decide +kernel
theorem dX5_goThroughEnd_87 : decode cX5_goThroughEnd 87 = .ok (.iload 7, 2) := by decide +kernel
theorem dX5_goThroughEnd_89 : decode cX5_goThroughEnd 89 = .ok (.lload_n 1, 1) := by decide +kernel
theorem dX5_goThroughEnd_90 : decode cX5_goThroughEnd 90 = .ok (.lload 8, 2) := by decide +kernel
theorem dX5_goThroughEnd_92 : decode cX5_goThroughEnd 92 = .ok (.invokestatic 140, 3) := by decide +kernel
theorem dX5_goThroughEnd_95 : decode cX5_goThroughEnd 95 = .ok (.aload_n 0, 1) := by decide +kernel
theorem dX5_goThroughEnd_96 : decode cX5_goThroughEnd 96 = .ok (.getfield 43, 3) := by decide +kernel
theorem dX5_goThroughEnd_99 : decode cX5_goThroughEnd 99 = .ok (.lload 10, 2) := by decide +kernel
theorem dX5_goThroughEnd_101 : decode cX5_goThroughEnd 101 = .ok (.invokestatic 140, 3) := by decide +kernel
theorem dX5_goThroughEnd_104 : decode cX5_goThroughEnd 104 = .ok (.lmul, 1) := by decide +kernel
theorem dX5_goThroughEnd_105 : decode cX5_goThroughEnd 105 = .ok (.lastore, 1) := by decide +kernel
theorem dX5_goThroughEnd_106 : decode cX5_goThroughEnd 106 = .ok (.aload_n 0, 1) := by decide +kernel
theorem dX5_goThroughEnd_107 : decode cX5_goThroughEnd 107 = .ok (.getfield 54, 3) := by decide +kernel
theorem dX5_goThroughEnd_110 : decode cX5_goThroughEnd 110 = .ok (.iload 7, 2) := by decide +kernel
theorem dX5_goThroughEnd_112 : decode cX5_goThroughEnd 112 = .ok (.lload_n 3, 1) := by decide +kernel
theorem dX5_goThroughEnd_113 : decode cX5_goThroughEnd 113 = .ok (.lload 10, 2) := by decide +kernel
theorem dX5_goThroughEnd_115 : decode cX5_goThroughEnd 115 = .ok (.invokestatic 140, 3) := by decide +kernel
theorem dX5_goThroughEnd_118 : decode cX5_goThroughEnd 118 = .ok (.aload_n 0, 1) := by decide +kernel
theorem dX5_goThroughEnd_119 : decode cX5_goThroughEnd 119 = .ok (.getfield 47, 3) := by decide +kernel
theorem dX5_goThroughEnd_122 : decode cX5_goThroughEnd 122 = .ok (.lload 8, 2) := by decide +kernel
theorem dX5_goThroughEnd_124 : decode cX5_goThroughEnd 124 = .ok (.invokestatic 140, 3) := by decide +kernel
theorem dX5_goThroughEnd_127 : decode cX5_goThroughEnd 127 = .ok (.lmul, 1) := by decide +kernel
theorem dX5_goThroughEnd_128 : decode cX5_goThroughEnd 128 = .ok (.lastore, 1) := by decide +kernel
theorem dX5_goThroughEnd_129 : decode cX5_goThroughEnd 129 = .ok (.aload_n 0, 1) := by decide +kernel
theorem dX5_goThroughEnd_130 : decode cX5_goThroughEnd 130 = .ok (.getfield 57, 3) := by decide +kernel
theorem dX5_goThroughEnd_133 : decode cX5_goThroughEnd 133 = .ok (.iload 7, 2) := by decide +kernel
theorem dX5_goThroughEnd_135 : decode cX5_goThroughEnd 135 = .ok (.iload 5, 2) := by decide +kernel
theorem dX5_goThroughEnd_137 : decode cX5_goThroughEnd 137 = .ok (.iastore, 1) := by decide +kernel
theorem dX5_goThroughEnd_138 : decode cX5_goThroughEnd 138 = .ok (.aload_n 0, 1) := by decide +kernel
theorem dX5_goThroughEnd_139 : decode cX5_goThroughEnd 139 = .ok (.getfield 61, 3) := by decide +kernel
theorem dX5_goThroughEnd_142 : decode cX5_goThroughEnd 142 = .ok (.iload 7, 2) := by decide +kernel
theorem dX5_goThroughEnd_144 : decode cX5_goThroughEnd 144 = .ok (.iload 6, 2) := by decide +kernel
theorem dX5_goThroughEnd_146 : decode cX5_goThroughEnd 146 = .ok (.iastore, 1) := by decide +kernel
theorem dX5_goThroughEnd_147 : decode cX5_goThroughEnd 147 = .ok (.aload_n 0, 1) := by decide +kernel
theorem dX5_goThroughEnd_148 : decode cX5_goThroughEnd 148 = .ok (.getfield 28, 3) := by decide +kernel
theorem dX5_goThroughEnd_151 : decode cX5_goThroughEnd 151 = .ok (.getfield 111, 3) := by decide +kernel
theorem dX5_goThroughEnd_154 : decode cX5_goThroughEnd 154 = .ok (.iconst 1, 1) := by decide +kernel
theorem dX5_goThroughEnd_155 : decode cX5_goThroughEnd 155 = .ok (.dup2, 1) := by decide +kernel
theorem dX5_goThroughEnd_156 : decode cX5_goThroughEnd 156 = .ok (.iaload, 1) := by decide +kernel
theorem dX5_goThroughEnd_157 : decode cX5_goThroughEnd 157 = .ok (.iconst 1, 1) := by decide +kernel
theorem dX5_goThroughEnd_158 : decode cX5_goThroughEnd 158 = .ok (.iadd, 1) := by decide +kernel
theorem dX5_goThroughEnd_159 : decode cX5_goThroughEnd 159 = .ok (.iastore, 1) := by decide +kernel
theorem dX5_goThroughEnd_160 : decode cX5_goThroughEnd 160 = .ok (.iconst 1, 1) := by decide +kernel
theorem dX5_goThroughEnd_161 : decode cX5_goThroughEnd 161 = .ok (.ireturn, 1) := by decide +kernel
set_option maxRecDepth 20000 in
theorem ggX5_goThroughFraction_X10_advance : GoodIn wsX5_goThroughFraction wsX10_advance := goodIn_s _ [(11, 9), (10, 1), (20, 5), (54, 6)] rfl (by decide +kernel)
set_option maxRecDepth 20000 in
theorem gX5_goThroughFraction_X10_advance : GoodIn wsX5_goThroughFraction (wsV RX5 95 RX10 yX10_advance wsX10_advance) := goodIn_app (goodIn_r _ [7, 8, 9, 10] rfl (by decide +kernel)) ggX5_goThroughFraction_X10_advance
set_option maxRecDepth 20000 in
theorem ggX5_goThroughFraction_X5_refuse : GoodIn wsX5_goThroughFraction wsX5_refuse := goodIn_s _ [(29, 3), (41, 13)] rfl (by decide +kernel)
set_option maxRecDepth 20000 in
theorem gX5_goThroughFraction_X5_refuse : GoodIn wsX5_goThroughFraction (wsV RX5 77 RX5 yX5_refuse wsX5_refuse) := goodIn_app (goodIn_r _ [25, 26, 27, 28] rfl (by decide +kernel)) ggX5_goThroughFraction_X5_refuse
set_option maxRecDepth 20000 in
theorem ggX5_goThroughFraction_X11_gcd : GoodIn wsX5_goThroughFraction wsX11_gcd := goodIn_r _ [34, 35, 36, 37, 38] rfl (by decide +kernel)
set_option maxRecDepth 20000 in
theorem gX5_goThroughFraction_X11_gcd_n136 : GoodIn wsX5_goThroughFraction (wsX11_gcd) := ggX5_goThroughFraction_X11_gcd
set_option maxRecDepth 20000 in
theorem ggX5_goThroughFraction_X11_quotient : GoodIn wsX5_goThroughFraction wsX11_quotient := goodIn_r _ [40] rfl (by decide +kernel)
set_option maxRecDepth 20000 in
theorem gX5_goThroughFraction_X11_quotient_n140 : GoodIn wsX5_goThroughFraction (wsX11_quotient) := ggX5_goThroughFraction_X11_quotient
theorem dX5_goThroughFraction_0 : decode cX5_goThroughFraction 0 = .ok (.aload_n 0, 1) := by decide +kernel
theorem dX5_goThroughFraction_1 : decode cX5_goThroughFraction 1 = .ok (.getfield 21, 3) := by decide +kernel
theorem dX5_goThroughFraction_4 : decode cX5_goThroughFraction 4 = .ok (.getfield 74, 3) := by decide +kernel
theorem dX5_goThroughFraction_7 : decode cX5_goThroughFraction 7 = .ok (.istore_n 2, 1) := by decide +kernel
theorem dX5_goThroughFraction_8 : decode cX5_goThroughFraction 8 = .ok (.aload_n 0, 1) := by decide +kernel
theorem dX5_goThroughFraction_9 : decode cX5_goThroughFraction 9 = .ok (.getfield 21, 3) := by decide +kernel
theorem dX5_goThroughFraction_12 : decode cX5_goThroughFraction 12 = .ok (.getfield 88, 3) := by decide +kernel
theorem dX5_goThroughFraction_15 : decode cX5_goThroughFraction 15 = .ok (.bipush 45, 2) := by decide +kernel
theorem dX5_goThroughFraction_17 : decode cX5_goThroughFraction 17 = .ok (.if_icmp .ne 7, 3) := by decide +kernel
theorem dX5_goThroughFraction_20 : decode cX5_goThroughFraction 20 = .ok (.iconst 1, 1) := by decide +kernel
theorem dX5_goThroughFraction_21 : decode cX5_goThroughFraction 21 = .ok (.goto 4, 3) := by decide +kernel
theorem dX5_goThroughFraction_24 : decode cX5_goThroughFraction 24 = .ok (.iconst 0, 1) := by decide +kernel
theorem dX5_goThroughFraction_25 : decode cX5_goThroughFraction 25 = .ok (.istore_n 3, 1) := by decide +kernel
theorem dX5_goThroughFraction_26 : decode cX5_goThroughFraction 26 = .ok (.iload_n 3, 1) := by decide +kernel
theorem dX5_goThroughFraction_27 : decode cX5_goThroughFraction 27 = .ok (.ifCond .eq 10, 3) := by decide +kernel
theorem dX5_goThroughFraction_30 : decode cX5_goThroughFraction 30 = .ok (.aload_n 0, 1) := by decide +kernel
theorem dX5_goThroughFraction_31 : decode cX5_goThroughFraction 31 = .ok (.getfield 21, 3) := by decide +kernel
theorem dX5_goThroughFraction_34 : decode cX5_goThroughFraction 34 = .ok (.invokevirtual 95, 3) := by decide +kernel
theorem dX5_goThroughFraction_37 : decode cX5_goThroughFraction 37 = .ok (.iload_n 3, 1) := by decide +kernel
theorem dX5_goThroughFraction_38 : decode cX5_goThroughFraction 38 = .ok (.ifCond .eq 15, 3) := by decide +kernel
theorem dX5_goThroughFraction_41 : decode cX5_goThroughFraction 41 = .ok (.aload_n 0, 1) := by decide +kernel
theorem dX5_goThroughFraction_42 : decode cX5_goThroughFraction 42 = .ok (.getfield 21, 3) := by decide +kernel
theorem dX5_goThroughFraction_45 : decode cX5_goThroughFraction 45 = .ok (.getfield 143, 3) := by decide +kernel
theorem dX5_goThroughFraction_48 : decode cX5_goThroughFraction 48 = .ok (.ineg, 1) := by decide +kernel
theorem dX5_goThroughFraction_49 : decode cX5_goThroughFraction 49 = .ok (.i2l, 1) := by decide +kernel
theorem dX5_goThroughFraction_50 : decode cX5_goThroughFraction 50 = .ok (.goto 11, 3) := by decide +kernel
theorem dX5_goThroughFraction_53 : decode cX5_goThroughFraction 53 = .ok (.aload_n 0, 1) := by decide +kernel
theorem dX5_goThroughFraction_54 : decode cX5_goThroughFraction 54 = .ok (.getfield 21, 3) := by decide +kernel
theorem dX5_goThroughFraction_57 : decode cX5_goThroughFraction 57 = .ok (.getfield 143, 3) := by decide +kernel
theorem dX5_goThroughFraction_60 : decode cX5_goThroughFraction 60 = .ok (.i2l, 1) := by decide +kernel
theorem dX5_goThroughFraction_61 : decode cX5_goThroughFraction 61 = .ok (.lstore 4, 2) := by decide +kernel
theorem dX5_goThroughFraction_63 : decode cX5_goThroughFraction 63 = .ok (.lconst 1, 1) := by decide +kernel
theorem dX5_goThroughFraction_64 : decode cX5_goThroughFraction 64 = .ok (.lstore 6, 2) := by decide +kernel
theorem dX5_goThroughFraction_66 : decode cX5_goThroughFraction 66 = .ok (.aload_n 0, 1) := by decide +kernel
theorem dX5_goThroughFraction_67 : decode cX5_goThroughFraction 67 = .ok (.getfield 21, 3) := by decide +kernel
theorem dX5_goThroughFraction_70 : decode cX5_goThroughFraction 70 = .ok (.invokevirtual 95, 3) := by decide +kernel
theorem dX5_goThroughFraction_73 : decode cX5_goThroughFraction 73 = .ok (.aload_n 0, 1) := by decide +kernel
theorem dX5_goThroughFraction_74 : decode cX5_goThroughFraction 74 = .ok (.getfield 21, 3) := by decide +kernel
theorem dX5_goThroughFraction_77 : decode cX5_goThroughFraction 77 = .ok (.getfield 88, 3) := by decide +kernel
theorem dX5_goThroughFraction_80 : decode cX5_goThroughFraction 80 = .ok (.bipush 47, 2) := by decide +kernel
theorem dX5_goThroughFraction_82 : decode cX5_goThroughFraction 82 = .ok (.if_icmp .ne 27, 3) := by decide +kernel
theorem dX5_goThroughFraction_85 : decode cX5_goThroughFraction 85 = .ok (.aload_n 0, 1) := by decide +kernel
theorem dX5_goThroughFraction_86 : decode cX5_goThroughFraction 86 = .ok (.getfield 21, 3) := by decide +kernel
theorem dX5_goThroughFraction_89 : decode cX5_goThroughFraction 89 = .ok (.invokevirtual 95, 3) := by decide +kernel
theorem dX5_goThroughFraction_92 : decode cX5_goThroughFraction 92 = .ok (.aload_n 0, 1) := by decide +kernel
theorem dX5_goThroughFraction_93 : decode cX5_goThroughFraction 93 = .ok (.getfield 21, 3) := by decide +kernel
theorem dX5_goThroughFraction_96 : decode cX5_goThroughFraction 96 = .ok (.getfield 143, 3) := by decide +kernel
theorem dX5_goThroughFraction_99 : decode cX5_goThroughFraction 99 = .ok (.i2l, 1) := by decide +kernel
theorem dX5_goThroughFraction_100 : decode cX5_goThroughFraction 100 = .ok (.lstore 6, 2) := by decide +kernel
theorem dX5_goThroughFraction_102 : decode cX5_goThroughFraction 102 = .ok (.aload_n 0, 1) := by decide +kernel
theorem dX5_goThroughFraction_103 : decode cX5_goThroughFraction 103 = .ok (.getfield 21, 3) := by decide +kernel
theorem dX5_goThroughFraction_106 : decode cX5_goThroughFraction 106 = .ok (.invokevirtual 95, 3) := by decide +kernel
theorem dX5_goThroughFraction_109 : decode cX5_goThroughFraction 109 = .ok (.lload 6, 2) := by decide +kernel
theorem dX5_goThroughFraction_111 : decode cX5_goThroughFraction 111 = .ok (.lconst 0, 1) := by decide +kernel
theorem dX5_goThroughFraction_112 : decode cX5_goThroughFraction 112 = .ok (.lcmp, 1) := by decide +kernel
theorem dX5_goThroughFraction_113 : decode cX5_goThroughFraction 113 = .ok (.ifCond .eq 22, 3) := by decide +kernel
theorem dX5_goThroughFraction_116 : decode cX5_goThroughFraction 116 = .ok (.iload_n 1, 1) := by decide +kernel
theorem dX5_goThroughFraction_117 : decode cX5_goThroughFraction 117 = .ok (.ifCond .eq 25, 3) := by decide +kernel
theorem dX5_goThroughFraction_120 : decode cX5_goThroughFraction 120 = .ok (.lload 4, 2) := by decide +kernel
theorem dX5_goThroughFraction_122 : decode cX5_goThroughFraction 122 = .ok (.lconst 0, 1) := by decide +kernel
theorem dX5_goThroughFraction_123 : decode cX5_goThroughFraction 123 = .ok (.lcmp, 1) := by decide +kernel
theorem dX5_goThroughFraction_124 : decode cX5_goThroughFraction 124 = .ok (.ifCond .le 11, 3) := by decide +kernel
theorem dX5_goThroughFraction_127 : decode cX5_goThroughFraction 127 = .ok (.lload 4, 2) := by decide +kernel
theorem dX5_goThroughFraction_129 : decode cX5_goThroughFraction 129 = .ok (.lload 6, 2) := by decide +kernel
theorem dX5_goThroughFraction_131 : decode cX5_goThroughFraction 131 = .ok (.lcmp, 1) := by decide +kernel
theorem dX5_goThroughFraction_132 : decode cX5_goThroughFraction 132 = .ok (.ifCond .le 10, 3) := by decide +kernel
theorem dX5_goThroughFraction_135 : decode cX5_goThroughFraction 135 = .ok (.aload_n 0, 1) := by decide +kernel
theorem dX5_goThroughFraction_136 : decode cX5_goThroughFraction 136 = .ok (.iconst 3, 1) := by decide +kernel
theorem dX5_goThroughFraction_137 : decode cX5_goThroughFraction 137 = .ok (.iload_n 2, 1) := by decide +kernel
theorem dX5_goThroughFraction_138 : decode cX5_goThroughFraction 138 = .ok (.invokevirtual 77, 3) := by decide +kernel
theorem dX5_goThroughFraction_141 : decode cX5_goThroughFraction 141 = .ok (.ireturn, 1) := by decide +kernel
theorem dX5_goThroughFraction_142 : decode cX5_goThroughFraction 142 = .ok (.lload 4, 2) := by decide +kernel
theorem dX5_goThroughFraction_144 : decode cX5_goThroughFraction 144 = .ok (.lload 6, 2) := by decide +kernel
theorem dX5_goThroughFraction_146 : decode cX5_goThroughFraction 146 = .ok (.invokestatic 136, 3) := by decide +kernel
theorem dX5_goThroughFraction_149 : decode cX5_goThroughFraction 149 = .ok (.lstore 8, 2) := by decide +kernel
theorem dX5_goThroughFraction_151 : decode cX5_goThroughFraction 151 = .ok (.aload_n 0, 1) := by decide +kernel
theorem dX5_goThroughFraction_152 : decode cX5_goThroughFraction 152 = .ok (.lload 4, 2) := by decide +kernel
theorem dX5_goThroughFraction_154 : decode cX5_goThroughFraction 154 = .ok (.lload 8, 2) := by decide +kernel
theorem dX5_goThroughFraction_156 : decode cX5_goThroughFraction 156 = .ok (.invokestatic 140, 3) := by decide +kernel
theorem dX5_goThroughFraction_159 : decode cX5_goThroughFraction 159 = .ok (.putfield 43, 3) := by decide +kernel
theorem dX5_goThroughFraction_162 : decode cX5_goThroughFraction 162 = .ok (.aload_n 0, 1) := by decide +kernel
theorem dX5_goThroughFraction_163 : decode cX5_goThroughFraction 163 = .ok (.lload 6, 2) := by decide +kernel
theorem dX5_goThroughFraction_165 : decode cX5_goThroughFraction 165 = .ok (.lload 8, 2) := by decide +kernel
theorem dX5_goThroughFraction_167 : decode cX5_goThroughFraction 167 = .ok (.invokestatic 140, 3) := by decide +kernel
theorem dX5_goThroughFraction_170 : decode cX5_goThroughFraction 170 = .ok (.putfield 47, 3) := by decide +kernel
theorem dX5_goThroughFraction_173 : decode cX5_goThroughFraction 173 = .ok (.iconst 1, 1) := by decide +kernel
theorem dX5_goThroughFraction_174 : decode cX5_goThroughFraction 174 = .ok (.ireturn, 1) := by decide +kernel
set_option maxRecDepth 20000 in
theorem ggX5_goThroughDraw_X5_refuse : GoodIn wsX5_goThroughDraw wsX5_refuse := goodIn_s _ [(13, 3), (111, 13)] rfl (by decide +kernel)
set_option maxRecDepth 20000 in
theorem gX5_goThroughDraw_X5_refuse : GoodIn wsX5_goThroughDraw (wsV RX5 77 RX5 yX5_refuse wsX5_refuse) := goodIn_app (goodIn_r _ [9, 10, 11, 12] rfl (by decide +kernel)) ggX5_goThroughDraw_X5_refuse
set_option maxRecDepth 20000 in
theorem ggX5_goThroughDraw_X10_advance : GoodIn wsX5_goThroughDraw wsX10_advance := goodIn_s _ [(20, 9), (19, 1), (29, 5), (124, 6)] rfl (by decide +kernel)
set_option maxRecDepth 20000 in
theorem gX5_goThroughDraw_X10_advance : GoodIn wsX5_goThroughDraw (wsV RX5 95 RX10 yX10_advance wsX10_advance) := goodIn_app (goodIn_r _ [16, 17, 18, 19] rfl (by decide +kernel)) ggX5_goThroughDraw_X10_advance
set_option maxRecDepth 20000 in
theorem ggX5_goThroughDraw_X5_goThroughFraction : GoodIn wsX5_goThroughDraw wsX5_goThroughFraction := goodIn_s _ [(37, 1), (1, 2), (6, 1), (38, 1), (8, 1), (7, 1), (16, 18), (9, 7), (39, 9), (111, 19)] rfl (by decide +kernel)
set_option maxRecDepth 20000 in
theorem gX5_goThroughDraw_X5_goThroughFraction : GoodIn wsX5_goThroughDraw (wsV RX5 126 RX5 yX5_goThroughFraction wsX5_goThroughFraction) := goodIn_app (goodIn_r _ [34, 35, 36, 12] rfl (by decide +kernel)) ggX5_goThroughDraw_X5_goThroughFraction
set_option maxRecDepth 20000 in
theorem ggX5_goThroughDraw_X11_lcm : GoodIn wsX5_goThroughDraw wsX11_lcm := goodIn_s _ [(49, 2), (39, 7), (51, 1), (46, 2)] rfl (by decide +kernel)
set_option maxRecDepth 20000 in
theorem gX5_goThroughDraw_X11_lcm_n146 : GoodIn wsX5_goThroughDraw (wsX11_lcm) := ggX5_goThroughDraw_X11_lcm
set_option maxRecDepth 20000 in
theorem ggX5_goThroughDraw_X11_quotient : GoodIn wsX5_goThroughDraw wsX11_quotient := goodIn_r _ [47] rfl (by decide +kernel)
set_option maxRecDepth 20000 in
theorem gX5_goThroughDraw_X11_quotient_n140 : GoodIn wsX5_goThroughDraw (wsX11_quotient) := ggX5_goThroughDraw_X11_quotient
set_option maxRecDepth 20000 in
theorem ggX5_goThroughDraw_X11_gcd : GoodIn wsX5_goThroughDraw wsX11_gcd := goodIn_r _ [41, 42, 43, 44, 45] rfl (by decide +kernel)
set_option maxRecDepth 20000 in
theorem gX5_goThroughDraw_X11_gcd_n136 : GoodIn wsX5_goThroughDraw (wsX11_gcd) := ggX5_goThroughDraw_X11_gcd
set_option maxRecDepth 20000 in
theorem ggX5_goThroughDraw_X5_goThroughNode : GoodIn wsX5_goThroughDraw wsX5_goThroughNode := goodIn_s _ [(95, 1), (4, 2), (1, 2), (6, 1), (9, 7), (96, 4), (3, 1), (100, 1), (79, 1), (44, 1), (80, 1), (7, 2), (101, 4), (16, 28), (45, 3), (105, 6), (59, 20), (81, 9), (52, 3), (90, 5), (0, 1), (48, 4), (55, 4), (111, 31)] rfl (by decide +kernel)
set_option maxRecDepth 20000 in
theorem gX5_goThroughDraw_X5_goThroughNode : GoodIn wsX5_goThroughDraw (wsV RX5 81 RX5 yX5_goThroughNode wsX5_goThroughNode) := goodIn_app (goodIn_r _ [52, 53, 54, 12] rfl (by decide +kernel)) ggX5_goThroughDraw_X5_goThroughNode
set_option maxRecDepth 20000 in
theorem ggX5_goThroughDraw_X5_endDraw : GoodIn wsX5_goThroughDraw wsX5_endDraw := goodIn_s _ [(58, 1), (3, 1), (9, 7), (111, 13)] rfl (by decide +kernel)
set_option maxRecDepth 20000 in
theorem gX5_goThroughDraw_X5_endDraw : GoodIn wsX5_goThroughDraw (wsV RX5 149 RX5 yX5_endDraw wsX5_endDraw) := goodIn_app (goodIn_r _ [55, 56, 57, 12] rfl (by decide +kernel)) ggX5_goThroughDraw_X5_endDraw
theorem dX5_goThroughDraw_0 : decode cX5_goThroughDraw 0 = .ok (.aload_n 0, 1) := by decide +kernel
theorem dX5_goThroughDraw_1 : decode cX5_goThroughDraw 1 = .ok (.getfield 21, 3) := by decide +kernel
theorem dX5_goThroughDraw_4 : decode cX5_goThroughDraw 4 = .ok (.getfield 74, 3) := by decide +kernel
theorem dX5_goThroughDraw_7 : decode cX5_goThroughDraw 7 = .ok (.istore 8, 2) := by decide +kernel
theorem dX5_goThroughDraw_9 : decode cX5_goThroughDraw 9 = .ok (.lload 4, 2) := by decide +kernel
theorem dX5_goThroughDraw_11 : decode cX5_goThroughDraw 11 = .ok (.ldc2_w 124, 3) := by decide +kernel
theorem dX5_goThroughDraw_14 : decode cX5_goThroughDraw 14 = .ok (.lcmp, 1) := by decide +kernel
theorem dX5_goThroughDraw_15 : decode cX5_goThroughDraw 15 = .ok (.ifCond .lt 12, 3) := by decide +kernel
theorem dX5_goThroughDraw_18 : decode cX5_goThroughDraw 18 = .ok (.aload_n 0, 1) := by decide +kernel
theorem dX5_goThroughDraw_19 : decode cX5_goThroughDraw 19 = .ok (.bipush 6, 2) := by decide +kernel
theorem dX5_goThroughDraw_21 : decode cX5_goThroughDraw 21 = .ok (.iload 8, 2) := by decide +kernel
theorem dX5_goThroughDraw_23 : decode cX5_goThroughDraw 23 = .ok (.invokevirtual 77, 3) := by decide +kernel
theorem dX5_goThroughDraw_26 : decode cX5_goThroughDraw 26 = .ok (.ireturn, 1) := by decide +kernel
theorem dX5_goThroughDraw_27 : decode cX5_goThroughDraw 27 = .ok (.aload_n 0, 1) := by decide +kernel
theorem dX5_goThroughDraw_28 : decode cX5_goThroughDraw 28 = .ok (.getfield 28, 3) := by decide +kernel
theorem dX5_goThroughDraw_31 : decode cX5_goThroughDraw 31 = .ok (.getfield 111, 3) := by decide +kernel
theorem dX5_goThroughDraw_34 : decode cX5_goThroughDraw 34 = .ok (.iconst 2, 1) := by decide +kernel
theorem dX5_goThroughDraw_35 : decode cX5_goThroughDraw 35 = .ok (.dup2, 1) := by decide +kernel
theorem dX5_goThroughDraw_36 : decode cX5_goThroughDraw 36 = .ok (.iaload, 1) := by decide +kernel
theorem dX5_goThroughDraw_37 : decode cX5_goThroughDraw 37 = .ok (.iconst 1, 1) := by decide +kernel
theorem dX5_goThroughDraw_38 : decode cX5_goThroughDraw 38 = .ok (.iadd, 1) := by decide +kernel
theorem dX5_goThroughDraw_39 : decode cX5_goThroughDraw 39 = .ok (.iastore, 1) := by decide +kernel
theorem dX5_goThroughDraw_40 : decode cX5_goThroughDraw 40 = .ok (.aload_n 0, 1) := by decide +kernel
theorem dX5_goThroughDraw_41 : decode cX5_goThroughDraw 41 = .ok (.getfield 21, 3) := by decide +kernel
theorem dX5_goThroughDraw_44 : decode cX5_goThroughDraw 44 = .ok (.invokevirtual 95, 3) := by decide +kernel
theorem dX5_goThroughDraw_47 : decode cX5_goThroughDraw 47 = .ok (.iconst 0, 1) := by decide +kernel
theorem dX5_goThroughDraw_48 : decode cX5_goThroughDraw 48 = .ok (.istore 9, 2) := by decide +kernel
theorem dX5_goThroughDraw_50 : decode cX5_goThroughDraw 50 = .ok (.lconst 1, 1) := by decide +kernel
theorem dX5_goThroughDraw_51 : decode cX5_goThroughDraw 51 = .ok (.lstore 10, 2) := by decide +kernel
theorem dX5_goThroughDraw_53 : decode cX5_goThroughDraw 53 = .ok (.lconst 0, 1) := by decide +kernel
theorem dX5_goThroughDraw_54 : decode cX5_goThroughDraw 54 = .ok (.lstore 12, 2) := by decide +kernel
theorem dX5_goThroughDraw_56 : decode cX5_goThroughDraw 56 = .ok (.iconst 0, 1) := by decide +kernel
theorem dX5_goThroughDraw_57 : decode cX5_goThroughDraw 57 = .ok (.istore 14, 2) := by decide +kernel
theorem dX5_goThroughDraw_59 : decode cX5_goThroughDraw 59 = .ok (.iload 14, 2) := by decide +kernel
theorem dX5_goThroughDraw_61 : decode cX5_goThroughDraw 61 = .ok (.sipush 400, 3) := by decide +kernel
theorem dX5_goThroughDraw_64 : decode cX5_goThroughDraw 64 = .ok (.if_icmp .ge 163, 3) := by decide +kernel
theorem dX5_goThroughDraw_67 : decode cX5_goThroughDraw 67 = .ok (.aload_n 0, 1) := by decide +kernel
theorem dX5_goThroughDraw_68 : decode cX5_goThroughDraw 68 = .ok (.getfield 21, 3) := by decide +kernel
theorem dX5_goThroughDraw_71 : decode cX5_goThroughDraw 71 = .ok (.getfield 88, 3) := by decide +kernel
theorem dX5_goThroughDraw_74 : decode cX5_goThroughDraw 74 = .ok (.bipush 41, 2) := by decide +kernel
theorem dX5_goThroughDraw_76 : decode cX5_goThroughDraw 76 = .ok (.if_icmp .eq 151, 3) := by decide +kernel
theorem dX5_goThroughDraw_79 : decode cX5_goThroughDraw 79 = .ok (.aload_n 0, 1) := by decide +kernel
theorem dX5_goThroughDraw_80 : decode cX5_goThroughDraw 80 = .ok (.getfield 21, 3) := by decide +kernel
theorem dX5_goThroughDraw_83 : decode cX5_goThroughDraw 83 = .ok (.invokevirtual 95, 3) := by decide +kernel
theorem dX5_goThroughDraw_86 : decode cX5_goThroughDraw 86 = .ok (.aload_n 0, 1) := by decide +kernel
theorem dX5_goThroughDraw_87 : decode cX5_goThroughDraw 87 = .ok (.iconst 1, 1) := by decide +kernel
theorem dX5_goThroughDraw_88 : decode cX5_goThroughDraw 88 = .ok (.invokevirtual 126, 3) := by decide +kernel
theorem dX5_goThroughDraw_91 : decode cX5_goThroughDraw 91 = .ok (.ifCond .ne 5, 3) := by decide +kernel
theorem dX5_goThroughDraw_94 : decode cX5_goThroughDraw 94 = .ok (.iconst 0, 1) := by decide +kernel
theorem dX5_goThroughDraw_95 : decode cX5_goThroughDraw 95 = .ok (.ireturn, 1) := by decide +kernel
theorem dX5_goThroughDraw_96 : decode cX5_goThroughDraw 96 = .ok (.aload_n 0, 1) := by decide +kernel
theorem dX5_goThroughDraw_97 : decode cX5_goThroughDraw 97 = .ok (.getfield 21, 3) := by decide +kernel
theorem dX5_goThroughDraw_100 : decode cX5_goThroughDraw 100 = .ok (.invokevirtual 95, 3) := by decide +kernel
theorem dX5_goThroughDraw_103 : decode cX5_goThroughDraw 103 = .ok (.lload 10, 2) := by decide +kernel
theorem dX5_goThroughDraw_105 : decode cX5_goThroughDraw 105 = .ok (.ldc2_w 124, 3) := by decide +kernel
theorem dX5_goThroughDraw_108 : decode cX5_goThroughDraw 108 = .ok (.lcmp, 1) := by decide +kernel
theorem dX5_goThroughDraw_109 : decode cX5_goThroughDraw 109 = .ok (.ifCond .ge 45, 3) := by decide +kernel
theorem dX5_goThroughDraw_112 : decode cX5_goThroughDraw 112 = .ok (.lload 10, 2) := by decide +kernel
theorem dX5_goThroughDraw_114 : decode cX5_goThroughDraw 114 = .ok (.aload_n 0, 1) := by decide +kernel
theorem dX5_goThroughDraw_115 : decode cX5_goThroughDraw 115 = .ok (.getfield 47, 3) := by decide +kernel
theorem dX5_goThroughDraw_118 : decode cX5_goThroughDraw 118 = .ok (.invokestatic 146, 3) := by decide +kernel
theorem dX5_goThroughDraw_121 : decode cX5_goThroughDraw 121 = .ok (.lstore 15, 2) := by decide +kernel
theorem dX5_goThroughDraw_123 : decode cX5_goThroughDraw 123 = .ok (.lload 12, 2) := by decide +kernel
theorem dX5_goThroughDraw_125 : decode cX5_goThroughDraw 125 = .ok (.lload 15, 2) := by decide +kernel
theorem dX5_goThroughDraw_127 : decode cX5_goThroughDraw 127 = .ok (.lload 10, 2) := by decide +kernel
theorem dX5_goThroughDraw_129 : decode cX5_goThroughDraw 129 = .ok (.invokestatic 140, 3) := by decide +kernel
theorem dX5_goThroughDraw_132 : decode cX5_goThroughDraw 132 = .ok (.lmul, 1) := by decide +kernel
theorem dX5_goThroughDraw_133 : decode cX5_goThroughDraw 133 = .ok (.aload_n 0, 1) := by decide +kernel
theorem dX5_goThroughDraw_134 : decode cX5_goThroughDraw 134 = .ok (.getfield 43, 3) := by decide +kernel
theorem dX5_goThroughDraw_137 : decode cX5_goThroughDraw 137 = .ok (.lload 15, 2) := by decide +kernel
theorem dX5_goThroughDraw_139 : decode cX5_goThroughDraw 139 = .ok (.aload_n 0, 1) := by decide +kernel
theorem dX5_goThroughDraw_140 : decode cX5_goThroughDraw 140 = .ok (.getfield 47, 3) := by decide +kernel
theorem dX5_goThroughDraw_143 : decode cX5_goThroughDraw 143 = .ok (.invokestatic 140, 3) := by decide +kernel
theorem dX5_goThroughDraw_146 : decode cX5_goThroughDraw 146 = .ok (.lmul, 1) := by decide +kernel
theorem dX5_goThroughDraw_147 : decode cX5_goThroughDraw 147 = .ok (.ladd, 1) := by decide +kernel
theorem dX5_goThroughDraw_148 : decode cX5_goThroughDraw 148 = .ok (.lstore 12, 2) := by decide +kernel
theorem dX5_goThroughDraw_150 : decode cX5_goThroughDraw 150 = .ok (.lload 15, 2) := by decide +kernel
theorem dX5_goThroughDraw_152 : decode cX5_goThroughDraw 152 = .ok (.lstore 10, 2) := by decide +kernel
theorem dX5_goThroughDraw_154 : decode cX5_goThroughDraw 154 = .ok (.lload_n 2, 1) := by decide +kernel
theorem dX5_goThroughDraw_155 : decode cX5_goThroughDraw 155 = .ok (.aload_n 0, 1) := by decide +kernel
theorem dX5_goThroughDraw_156 : decode cX5_goThroughDraw 156 = .ok (.getfield 43, 3) := by decide +kernel
theorem dX5_goThroughDraw_159 : decode cX5_goThroughDraw 159 = .ok (.lmul, 1) := by decide +kernel
theorem dX5_goThroughDraw_160 : decode cX5_goThroughDraw 160 = .ok (.lstore 15, 2) := by decide +kernel
theorem dX5_goThroughDraw_162 : decode cX5_goThroughDraw 162 = .ok (.lload 4, 2) := by decide +kernel
theorem dX5_goThroughDraw_164 : decode cX5_goThroughDraw 164 = .ok (.aload_n 0, 1) := by decide +kernel
theorem dX5_goThroughDraw_165 : decode cX5_goThroughDraw 165 = .ok (.getfield 47, 3) := by decide +kernel
theorem dX5_goThroughDraw_168 : decode cX5_goThroughDraw 168 = .ok (.lmul, 1) := by decide +kernel
theorem dX5_goThroughDraw_169 : decode cX5_goThroughDraw 169 = .ok (.lstore 17, 2) := by decide +kernel
theorem dX5_goThroughDraw_171 : decode cX5_goThroughDraw 171 = .ok (.lload 15, 2) := by decide +kernel
theorem dX5_goThroughDraw_173 : decode cX5_goThroughDraw 173 = .ok (.lload 17, 2) := by decide +kernel
theorem dX5_goThroughDraw_175 : decode cX5_goThroughDraw 175 = .ok (.invokestatic 136, 3) := by decide +kernel
theorem dX5_goThroughDraw_178 : decode cX5_goThroughDraw 178 = .ok (.lstore 19, 2) := by decide +kernel
theorem dX5_goThroughDraw_180 : decode cX5_goThroughDraw 180 = .ok (.lload 15, 2) := by decide +kernel
theorem dX5_goThroughDraw_182 : decode cX5_goThroughDraw 182 = .ok (.lload 19, 2) := by decide +kernel
theorem dX5_goThroughDraw_184 : decode cX5_goThroughDraw 184 = .ok (.invokestatic 140, 3) := by decide +kernel
theorem dX5_goThroughDraw_187 : decode cX5_goThroughDraw 187 = .ok (.lstore 15, 2) := by decide +kernel
theorem dX5_goThroughDraw_189 : decode cX5_goThroughDraw 189 = .ok (.lload 17, 2) := by decide +kernel
theorem dX5_goThroughDraw_191 : decode cX5_goThroughDraw 191 = .ok (.lload 19, 2) := by decide +kernel
theorem dX5_goThroughDraw_193 : decode cX5_goThroughDraw 193 = .ok (.invokestatic 140, 3) := by decide +kernel
theorem dX5_goThroughDraw_196 : decode cX5_goThroughDraw 196 = .ok (.lstore 17, 2) := by decide +kernel
theorem dX5_goThroughDraw_198 : decode cX5_goThroughDraw 198 = .ok (.aload_n 0, 1) := by decide +kernel
theorem dX5_goThroughDraw_199 : decode cX5_goThroughDraw 199 = .ok (.iload_n 1, 1) := by decide +kernel
theorem dX5_goThroughDraw_200 : decode cX5_goThroughDraw 200 = .ok (.iconst 1, 1) := by decide +kernel
theorem dX5_goThroughDraw_201 : decode cX5_goThroughDraw 201 = .ok (.iadd, 1) := by decide +kernel
theorem dX5_goThroughDraw_202 : decode cX5_goThroughDraw 202 = .ok (.lload 15, 2) := by decide +kernel
theorem dX5_goThroughDraw_204 : decode cX5_goThroughDraw 204 = .ok (.lload 17, 2) := by decide +kernel
theorem dX5_goThroughDraw_206 : decode cX5_goThroughDraw 206 = .ok (.iload 6, 2) := by decide +kernel
