set_option maxRecDepth 20000 in
theorem gX9_spread_X9_spreadLine : GoodIn wsX9_spread (wsV RX9 54 RX9 yX9_spreadLine wsX9_spreadLine) := goodIn_app (goodIn_r _ [5, 6, 7, 8] rfl (by decide +kernel)) ggX9_spread_X9_spreadLine
set_option maxRecDepth 20000 in
theorem ggX9_spread_X7_deed : GoodIn wsX9_spread wsX7_deed := goodIn_r _ [65] rfl (by decide +kernel)
set_option maxRecDepth 20000 in
theorem gX9_spread_X7_deed : GoodIn wsX9_spread (va_wsS RX9 58 yX7_deed wsX7_deed) := goodIn_app (goodIn_r _ [63, 64, 18] rfl (by decide +kernel)) ggX9_spread_X7_deed
theorem dX9_spread_0 : decode cX9_spread 0 = .ok (.aload_n 0, 1) := by decide +kernel
theorem dX9_spread_1 : decode cX9_spread 1 = .ok (.aload_n 1, 1) := by decide +kernel
theorem dX9_spread_2 : decode cX9_spread 2 = .ok (.iconst (-1), 1) := by decide +kernel
theorem dX9_spread_3 : decode cX9_spread 3 = .ok (.aload_n 2, 1) := by decide +kernel
theorem dX9_spread_4 : decode cX9_spread 4 = .ok (.getfield 48, 3) := by decide +kernel
theorem dX9_spread_7 : decode cX9_spread 7 = .ok (.iconst 0, 1) := by decide +kernel
theorem dX9_spread_8 : decode cX9_spread 8 = .ok (.aaload, 1) := by decide +kernel
theorem dX9_spread_9 : decode cX9_spread 9 = .ok (.invokevirtual 54, 3) := by decide +kernel
theorem dX9_spread_12 : decode cX9_spread 12 = .ok (.iconst 0, 1) := by decide +kernel
theorem dX9_spread_13 : decode cX9_spread 13 = .ok (.istore_n 3, 1) := by decide +kernel
theorem dX9_spread_14 : decode cX9_spread 14 = .ok (.iload_n 3, 1) := by decide +kernel
theorem dX9_spread_15 : decode cX9_spread 15 = .ok (.aload_n 1, 1) := by decide +kernel
theorem dX9_spread_16 : decode cX9_spread 16 = .ok (.getfield 28, 3) := by decide +kernel
theorem dX9_spread_19 : decode cX9_spread 19 = .ok (.if_icmp .ge 54, 3) := by decide +kernel
theorem dX9_spread_22 : decode cX9_spread 22 = .ok (.iconst 0, 1) := by decide +kernel
theorem dX9_spread_23 : decode cX9_spread 23 = .ok (.istore 4, 2) := by decide +kernel
theorem dX9_spread_25 : decode cX9_spread 25 = .ok (.iload 4, 2) := by decide +kernel
theorem dX9_spread_27 : decode cX9_spread 27 = .ok (.aload_n 1, 1) := by decide +kernel
theorem dX9_spread_28 : decode cX9_spread 28 = .ok (.getfield 38, 3) := by decide +kernel
theorem dX9_spread_31 : decode cX9_spread 31 = .ok (.iload_n 3, 1) := by decide +kernel
theorem dX9_spread_32 : decode cX9_spread 32 = .ok (.iaload, 1) := by decide +kernel
theorem dX9_spread_33 : decode cX9_spread 33 = .ok (.if_icmp .ge 34, 3) := by decide +kernel
theorem dX9_spread_36 : decode cX9_spread 36 = .ok (.aload_n 0, 1) := by decide +kernel
theorem dX9_spread_37 : decode cX9_spread 37 = .ok (.aload_n 1, 1) := by decide +kernel
theorem dX9_spread_38 : decode cX9_spread 38 = .ok (.iload_n 3, 1) := by decide +kernel
theorem dX9_spread_39 : decode cX9_spread 39 = .ok (.iload 4, 2) := by decide +kernel
theorem dX9_spread_41 : decode cX9_spread 41 = .ok (.invokestatic 58, 3) := by decide +kernel
theorem dX9_spread_44 : decode cX9_spread 44 = .ok (.aload_n 2, 1) := by decide +kernel
theorem dX9_spread_45 : decode cX9_spread 45 = .ok (.getfield 48, 3) := by decide +kernel
theorem dX9_spread_48 : decode cX9_spread 48 = .ok (.aload_n 1, 1) := by decide +kernel
theorem dX9_spread_49 : decode cX9_spread 49 = .ok (.getfield 62, 3) := by decide +kernel
theorem dX9_spread_52 : decode cX9_spread 52 = .ok (.iload_n 3, 1) := by decide +kernel
theorem dX9_spread_53 : decode cX9_spread 53 = .ok (.iaload, 1) := by decide +kernel
theorem dX9_spread_54 : decode cX9_spread 54 = .ok (.iload 4, 2) := by decide +kernel
theorem dX9_spread_56 : decode cX9_spread 56 = .ok (.iadd, 1) := by decide +kernel
theorem dX9_spread_57 : decode cX9_spread 57 = .ok (.aaload, 1) := by decide +kernel
theorem dX9_spread_58 : decode cX9_spread 58 = .ok (.invokevirtual 54, 3) := by decide +kernel
theorem dX9_spread_61 : decode cX9_spread 61 = .ok (.iinc 4 1, 3) := by decide +kernel
theorem dX9_spread_64 : decode cX9_spread 64 = .ok (.goto (-39), 3) := by decide +kernel
theorem dX9_spread_67 : decode cX9_spread 67 = .ok (.iinc 3 1, 3) := by decide +kernel
theorem dX9_spread_70 : decode cX9_spread 70 = .ok (.goto (-56), 3) := by decide +kernel
theorem dX9_spread_73 : decode cX9_spread 73 = .ok (.return_, 1) := by decide +kernel
set_option maxRecDepth 20000 in
theorem ggX9_spreadLine_X9_markTaken : GoodIn wsX9_spreadLine wsX9_markTaken := goodIn_s _ [(7, 1), (2, 1), (8, 8), (65, 3), (57, 8)] rfl (by decide +kernel)
set_option maxRecDepth 20000 in
theorem gX9_spreadLine_X9_markTaken : GoodIn wsX9_spreadLine (wsV RX9 65 RX9 yX9_markTaken wsX9_markTaken) := goodIn_app (goodIn_r _ [3, 4, 5, 6] rfl (by decide +kernel)) ggX9_spreadLine_X9_markTaken
set_option maxRecDepth 20000 in
theorem ggX9_spreadLine_X0_put : GoodIn wsX9_spreadLine wsX0_put := goodIn_s _ [(20, 4), (68, 3)] rfl (by decide +kernel)
set_option maxRecDepth 20000 in
theorem gX9_spreadLine_X0_put : GoodIn wsX9_spreadLine (wsV RX9 69 RX0 yX0_put wsX0_put) := goodIn_app (goodIn_r _ [16, 17, 18, 19] rfl (by decide +kernel)) ggX9_spreadLine_X0_put
set_option maxRecDepth 20000 in
theorem ggX9_spreadLine_X9_bottomOf : GoodIn wsX9_spreadLine wsX9_bottomOf := goodIn_s _ [(27, 16), (57, 11)] rfl (by decide +kernel)
set_option maxRecDepth 20000 in
theorem gX9_spreadLine_X9_bottomOf : GoodIn wsX9_spreadLine (wsV RX9 34 RX9 yX9_bottomOf wsX9_bottomOf) := goodIn_app (goodIn_r _ [24, 25, 26, 6] rfl (by decide +kernel)) ggX9_spreadLine_X9_bottomOf
set_option maxRecDepth 20000 in
theorem ggX9_spreadLine_X9_topOf : GoodIn wsX9_spreadLine wsX9_topOf := goodIn_r _ [46, 29, 47, 41, 31, 42, 65, 66, 67] rfl (by decide +kernel)
set_option maxRecDepth 20000 in
theorem gX9_spreadLine_X9_topOf : GoodIn wsX9_spreadLine (wsV RX9 41 RX9 yX9_topOf wsX9_topOf) := goodIn_app (goodIn_r _ [43, 44, 45, 6] rfl (by decide +kernel)) ggX9_spreadLine_X9_topOf
set_option maxRecDepth 20000 in
theorem ggX9_spreadLine_X0_scale : GoodIn wsX9_spreadLine wsX0_scale := goodIn_s _ [(51, 1), (22, 2), (52, 4), (19, 1), (56, 1), (21, 1), (68, 3)] rfl (by decide +kernel)
set_option maxRecDepth 20000 in
theorem gX9_spreadLine_X0_scale : GoodIn wsX9_spreadLine (wsV RX9 75 RX0 yX0_scale wsX0_scale) := goodIn_app (goodIn_r _ [48, 49, 50, 19] rfl (by decide +kernel)) ggX9_spreadLine_X0_scale
theorem dX9_spreadLine_0 : decode cX9_spreadLine 0 = .ok (.aload_n 0, 1) := by decide +kernel
theorem dX9_spreadLine_1 : decode cX9_spreadLine 1 = .ok (.aload_n 1, 1) := by decide +kernel
theorem dX9_spreadLine_2 : decode cX9_spreadLine 2 = .ok (.iload_n 2, 1) := by decide +kernel
theorem dX9_spreadLine_3 : decode cX9_spreadLine 3 = .ok (.invokevirtual 65, 3) := by decide +kernel
theorem dX9_spreadLine_6 : decode cX9_spreadLine 6 = .ok (.aload_n 3, 1) := by decide +kernel
theorem dX9_spreadLine_7 : decode cX9_spreadLine 7 = .ok (.lconst 1, 1) := by decide +kernel
theorem dX9_spreadLine_8 : decode cX9_spreadLine 8 = .ok (.invokevirtual 69, 3) := by decide +kernel
theorem dX9_spreadLine_11 : decode cX9_spreadLine 11 = .ok (.iconst 0, 1) := by decide +kernel
theorem dX9_spreadLine_12 : decode cX9_spreadLine 12 = .ok (.istore 4, 2) := by decide +kernel
theorem dX9_spreadLine_14 : decode cX9_spreadLine 14 = .ok (.iload 4, 2) := by decide +kernel
theorem dX9_spreadLine_16 : decode cX9_spreadLine 16 = .ok (.aload_n 1, 1) := by decide +kernel
theorem dX9_spreadLine_17 : decode cX9_spreadLine 17 = .ok (.getfield 28, 3) := by decide +kernel
theorem dX9_spreadLine_20 : decode cX9_spreadLine 20 = .ok (.if_icmp .ge 53, 3) := by decide +kernel
theorem dX9_spreadLine_23 : decode cX9_spreadLine 23 = .ok (.aload_n 0, 1) := by decide +kernel
theorem dX9_spreadLine_24 : decode cX9_spreadLine 24 = .ok (.aload_n 1, 1) := by decide +kernel
theorem dX9_spreadLine_25 : decode cX9_spreadLine 25 = .ok (.iload 4, 2) := by decide +kernel
theorem dX9_spreadLine_27 : decode cX9_spreadLine 27 = .ok (.invokevirtual 34, 3) := by decide +kernel
theorem dX9_spreadLine_30 : decode cX9_spreadLine 30 = .ok (.lstore 5, 2) := by decide +kernel
theorem dX9_spreadLine_32 : decode cX9_spreadLine 32 = .ok (.aload_n 3, 1) := by decide +kernel
theorem dX9_spreadLine_33 : decode cX9_spreadLine 33 = .ok (.aload_n 0, 1) := by decide +kernel
theorem dX9_spreadLine_34 : decode cX9_spreadLine 34 = .ok (.getfield 18, 3) := by decide +kernel
theorem dX9_spreadLine_37 : decode cX9_spreadLine 37 = .ok (.iload 4, 2) := by decide +kernel
theorem dX9_spreadLine_39 : decode cX9_spreadLine 39 = .ok (.iaload, 1) := by decide +kernel
theorem dX9_spreadLine_40 : decode cX9_spreadLine 40 = .ok (.iconst (-1), 1) := by decide +kernel
theorem dX9_spreadLine_41 : decode cX9_spreadLine 41 = .ok (.if_icmp .ne 8, 3) := by decide +kernel
theorem dX9_spreadLine_44 : decode cX9_spreadLine 44 = .ok (.lload 5, 2) := by decide +kernel
theorem dX9_spreadLine_46 : decode cX9_spreadLine 46 = .ok (.goto 18, 3) := by decide +kernel
theorem dX9_spreadLine_49 : decode cX9_spreadLine 49 = .ok (.aload_n 0, 1) := by decide +kernel
theorem dX9_spreadLine_50 : decode cX9_spreadLine 50 = .ok (.iload 4, 2) := by decide +kernel
theorem dX9_spreadLine_52 : decode cX9_spreadLine 52 = .ok (.aload_n 0, 1) := by decide +kernel
theorem dX9_spreadLine_53 : decode cX9_spreadLine 53 = .ok (.getfield 18, 3) := by decide +kernel
theorem dX9_spreadLine_56 : decode cX9_spreadLine 56 = .ok (.iload 4, 2) := by decide +kernel
theorem dX9_spreadLine_58 : decode cX9_spreadLine 58 = .ok (.iaload, 1) := by decide +kernel
theorem dX9_spreadLine_59 : decode cX9_spreadLine 59 = .ok (.lload 5, 2) := by decide +kernel
theorem dX9_spreadLine_61 : decode cX9_spreadLine 61 = .ok (.invokevirtual 41, 3) := by decide +kernel
theorem dX9_spreadLine_64 : decode cX9_spreadLine 64 = .ok (.invokevirtual 75, 3) := by decide +kernel
theorem dX9_spreadLine_67 : decode cX9_spreadLine 67 = .ok (.iinc 4 1, 3) := by decide +kernel
theorem dX9_spreadLine_70 : decode cX9_spreadLine 70 = .ok (.goto (-56), 3) := by decide +kernel
theorem dX9_spreadLine_73 : decode cX9_spreadLine 73 = .ok (.return_, 1) := by decide +kernel
set_option maxRecDepth 20000 in
theorem ggX9_markTaken_X7_setOf : GoodIn wsX9_markTaken wsX7_setOf := goodIn_r _ [6] rfl (by decide +kernel)
set_option maxRecDepth 20000 in
theorem gX9_markTaken_X7_setOf : GoodIn wsX9_markTaken (va_wsS RX9 78 yX7_setOf wsX7_setOf) := goodIn_app (goodIn_r _ [3, 4, 5] rfl (by decide +kernel)) ggX9_markTaken_X7_setOf
set_option maxRecDepth 20000 in
theorem ggX9_markTaken_X7_moveOf : GoodIn wsX9_markTaken wsX7_moveOf := goodIn_r _ [9] rfl (by decide +kernel)
set_option maxRecDepth 20000 in
theorem gX9_markTaken_X7_moveOf : GoodIn wsX9_markTaken (va_wsS RX9 82 yX7_moveOf wsX7_moveOf) := goodIn_app (goodIn_r _ [7, 8, 5] rfl (by decide +kernel)) ggX9_markTaken_X7_moveOf
theorem dX9_markTaken_0 : decode cX9_markTaken 0 = .ok (.iconst 0, 1) := by decide +kernel
theorem dX9_markTaken_1 : decode cX9_markTaken 1 = .ok (.istore_n 3, 1) := by decide +kernel
theorem dX9_markTaken_2 : decode cX9_markTaken 2 = .ok (.iload_n 3, 1) := by decide +kernel
theorem dX9_markTaken_3 : decode cX9_markTaken 3 = .ok (.bipush 10, 2) := by decide +kernel
theorem dX9_markTaken_5 : decode cX9_markTaken 5 = .ok (.if_icmp .ge 16, 3) := by decide +kernel
theorem dX9_markTaken_8 : decode cX9_markTaken 8 = .ok (.aload_n 0, 1) := by decide +kernel
theorem dX9_markTaken_9 : decode cX9_markTaken 9 = .ok (.getfield 18, 3) := by decide +kernel
theorem dX9_markTaken_12 : decode cX9_markTaken 12 = .ok (.iload_n 3, 1) := by decide +kernel
theorem dX9_markTaken_13 : decode cX9_markTaken 13 = .ok (.iconst (-1), 1) := by decide +kernel
theorem dX9_markTaken_14 : decode cX9_markTaken 14 = .ok (.iastore, 1) := by decide +kernel
theorem dX9_markTaken_15 : decode cX9_markTaken 15 = .ok (.iinc 3 1, 3) := by decide +kernel
theorem dX9_markTaken_18 : decode cX9_markTaken 18 = .ok (.goto (-16), 3) := by decide +kernel
theorem dX9_markTaken_21 : decode cX9_markTaken 21 = .ok (.iload_n 2, 1) := by decide +kernel
theorem dX9_markTaken_22 : decode cX9_markTaken 22 = .ok (.istore_n 3, 1) := by decide +kernel
theorem dX9_markTaken_23 : decode cX9_markTaken 23 = .ok (.iconst 0, 1) := by decide +kernel
theorem dX9_markTaken_24 : decode cX9_markTaken 24 = .ok (.istore 4, 2) := by decide +kernel
theorem dX9_markTaken_26 : decode cX9_markTaken 26 = .ok (.iload 4, 2) := by decide +kernel
theorem dX9_markTaken_28 : decode cX9_markTaken 28 = .ok (.bipush 10, 2) := by decide +kernel
theorem dX9_markTaken_30 : decode cX9_markTaken 30 = .ok (.if_icmp .ge 37, 3) := by decide +kernel
theorem dX9_markTaken_33 : decode cX9_markTaken 33 = .ok (.iload_n 3, 1) := by decide +kernel
theorem dX9_markTaken_34 : decode cX9_markTaken 34 = .ok (.iconst (-1), 1) := by decide +kernel
theorem dX9_markTaken_35 : decode cX9_markTaken 35 = .ok (.if_icmp .eq 32, 3) := by decide +kernel
theorem dX9_markTaken_38 : decode cX9_markTaken 38 = .ok (.aload_n 0, 1) := by decide +kernel
theorem dX9_markTaken_39 : decode cX9_markTaken 39 = .ok (.getfield 18, 3) := by decide +kernel
theorem dX9_markTaken_42 : decode cX9_markTaken 42 = .ok (.iload_n 3, 1) := by decide +kernel
theorem dX9_markTaken_43 : decode cX9_markTaken 43 = .ok (.invokestatic 78, 3) := by decide +kernel
theorem dX9_markTaken_46 : decode cX9_markTaken 46 = .ok (.iload_n 3, 1) := by decide +kernel
theorem dX9_markTaken_47 : decode cX9_markTaken 47 = .ok (.invokestatic 82, 3) := by decide +kernel
theorem dX9_markTaken_50 : decode cX9_markTaken 50 = .ok (.iastore, 1) := by decide +kernel
theorem dX9_markTaken_51 : decode cX9_markTaken 51 = .ok (.aload_n 1, 1) := by decide +kernel
theorem dX9_markTaken_52 : decode cX9_markTaken 52 = .ok (.getfield 85, 3) := by decide +kernel
theorem dX9_markTaken_55 : decode cX9_markTaken 55 = .ok (.iload_n 3, 1) := by decide +kernel
theorem dX9_markTaken_56 : decode cX9_markTaken 56 = .ok (.invokestatic 78, 3) := by decide +kernel
theorem dX9_markTaken_59 : decode cX9_markTaken 59 = .ok (.iaload, 1) := by decide +kernel
theorem dX9_markTaken_60 : decode cX9_markTaken 60 = .ok (.istore_n 3, 1) := by decide +kernel
theorem dX9_markTaken_61 : decode cX9_markTaken 61 = .ok (.iinc 4 1, 3) := by decide +kernel
theorem dX9_markTaken_64 : decode cX9_markTaken 64 = .ok (.goto (-38), 3) := by decide +kernel
theorem dX9_markTaken_67 : decode cX9_markTaken 67 = .ok (.return_, 1) := by decide +kernel
theorem dX10_init_0 : decode cX10_init 0 = .ok (.aload_n 0, 1) := by decide +kernel
theorem dX10_init_1 : decode cX10_init 1 = .ok (.invokespecial 3, 3) := by decide +kernel
theorem dX10_init_4 : decode cX10_init 4 = .ok (.aload_n 0, 1) := by decide +kernel
theorem dX10_init_5 : decode cX10_init 5 = .ok (.sipush 4000, 3) := by decide +kernel
theorem dX10_init_8 : decode cX10_init 8 = .ok (.newarray .char, 2) := by decide +kernel
theorem dX10_init_10 : decode cX10_init 10 = .ok (.putfield 9, 3) := by decide +kernel
theorem dX10_init_13 : decode cX10_init 13 = .ok (.aload_n 0, 1) := by decide +kernel
theorem dX10_init_14 : decode cX10_init 14 = .ok (.iconst 0, 1) := by decide +kernel
theorem dX10_init_15 : decode cX10_init 15 = .ok (.putfield 15, 3) := by decide +kernel
theorem dX10_init_18 : decode cX10_init 18 = .ok (.aload_n 0, 1) := by decide +kernel
theorem dX10_init_19 : decode cX10_init 19 = .ok (.iconst 0, 1) := by decide +kernel
theorem dX10_init_20 : decode cX10_init 20 = .ok (.putfield 19, 3) := by decide +kernel
theorem dX10_init_23 : decode cX10_init 23 = .ok (.aload_n 0, 1) := by decide +kernel
theorem dX10_init_24 : decode cX10_init 24 = .ok (.iconst 0, 1) := by decide +kernel
theorem dX10_init_25 : decode cX10_init 25 = .ok (.putfield 22, 3) := by decide +kernel
theorem dX10_init_28 : decode cX10_init 28 = .ok (.aload_n 0, 1) := by decide +kernel
theorem dX10_init_29 : decode cX10_init 29 = .ok (.iconst 0, 1) := by decide +kernel
theorem dX10_init_30 : decode cX10_init 30 = .ok (.putfield 25, 3) := by decide +kernel
theorem dX10_init_33 : decode cX10_init 33 = .ok (.aload_n 0, 1) := by decide +kernel
theorem dX10_init_34 : decode cX10_init 34 = .ok (.iconst 0, 1) := by decide +kernel
theorem dX10_init_35 : decode cX10_init 35 = .ok (.putfield 28, 3) := by decide +kernel
theorem dX10_init_38 : decode cX10_init 38 = .ok (.return_, 1) := by decide +kernel
set_option maxRecDepth 20000 in
theorem ggX10_append_X10_typedCharacter : GoodIn wsX10_append wsX10_typedCharacter := goodIn_r _ [6] rfl (by decide +kernel)
set_option maxRecDepth 20000 in
theorem gX10_append_X10_typedCharacter : GoodIn wsX10_append (va_wsS RX10 31 yX10_typedCharacter wsX10_typedCharacter) := goodIn_app (goodIn_r _ [3, 4, 5] rfl (by decide +kernel)) ggX10_append_X10_typedCharacter
theorem dX10_append_0 : decode cX10_append 0 = .ok (.iload_n 3, 1) := by decide +kernel
theorem dX10_append_1 : decode cX10_append 1 = .ok (.iconst 1, 1) := by decide +kernel
theorem dX10_append_2 : decode cX10_append 2 = .ok (.if_icmp .lt 21, 3) := by decide +kernel
theorem dX10_append_5 : decode cX10_append 5 = .ok (.iload_n 3, 1) := by decide +kernel
theorem dX10_append_6 : decode cX10_append 6 = .ok (.bipush 8, 2) := by decide +kernel
theorem dX10_append_8 : decode cX10_append 8 = .ok (.if_icmp .gt 15, 3) := by decide +kernel
theorem dX10_append_11 : decode cX10_append 11 = .ok (.aload_n 0, 1) := by decide +kernel
theorem dX10_append_12 : decode cX10_append 12 = .ok (.getfield 15, 3) := by decide +kernel
theorem dX10_append_15 : decode cX10_append 15 = .ok (.iload_n 3, 1) := by decide +kernel
theorem dX10_append_16 : decode cX10_append 16 = .ok (.iadd, 1) := by decide +kernel
theorem dX10_append_17 : decode cX10_append 17 = .ok (.sipush 4000, 3) := by decide +kernel
theorem dX10_append_20 : decode cX10_append 20 = .ok (.if_icmp .le 5, 3) := by decide +kernel
theorem dX10_append_23 : decode cX10_append 23 = .ok (.iconst 0, 1) := by decide +kernel
theorem dX10_append_24 : decode cX10_append 24 = .ok (.ireturn, 1) := by decide +kernel
theorem dX10_append_25 : decode cX10_append 25 = .ok (.iconst 0, 1) := by decide +kernel
theorem dX10_append_26 : decode cX10_append 26 = .ok (.istore 4, 2) := by decide +kernel
theorem dX10_append_28 : decode cX10_append 28 = .ok (.iload 4, 2) := by decide +kernel
theorem dX10_append_30 : decode cX10_append 30 = .ok (.iload_n 3, 1) := by decide +kernel
theorem dX10_append_31 : decode cX10_append 31 = .ok (.if_icmp .ge 33, 3) := by decide +kernel
theorem dX10_append_34 : decode cX10_append 34 = .ok (.lload_n 1, 1) := by decide +kernel
theorem dX10_append_35 : decode cX10_append 35 = .ok (.iload 4, 2) := by decide +kernel
theorem dX10_append_37 : decode cX10_append 37 = .ok (.invokestatic 31, 3) := by decide +kernel
theorem dX10_append_40 : decode cX10_append 40 = .ok (.istore 5, 2) := by decide +kernel
theorem dX10_append_42 : decode cX10_append 42 = .ok (.iload 5, 2) := by decide +kernel
theorem dX10_append_44 : decode cX10_append 44 = .ok (.bipush 32, 2) := by decide +kernel
theorem dX10_append_46 : decode cX10_append 46 = .ok (.if_icmp .lt 10, 3) := by decide +kernel
theorem dX10_append_49 : decode cX10_append 49 = .ok (.iload 5, 2) := by decide +kernel
theorem dX10_append_51 : decode cX10_append 51 = .ok (.bipush 126, 2) := by decide +kernel
theorem dX10_append_53 : decode cX10_append 53 = .ok (.if_icmp .le 5, 3) := by decide +kernel
theorem dX10_append_56 : decode cX10_append 56 = .ok (.iconst 0, 1) := by decide +kernel
theorem dX10_append_57 : decode cX10_append 57 = .ok (.ireturn, 1) := by decide +kernel
theorem dX10_append_58 : decode cX10_append 58 = .ok (.iinc 4 1, 3) := by decide +kernel
theorem dX10_append_61 : decode cX10_append 61 = .ok (.goto (-33), 3) := by decide +kernel
theorem dX10_append_64 : decode cX10_append 64 = .ok (.iload_n 3, 1) := by decide +kernel
theorem dX10_append_65 : decode cX10_append 65 = .ok (.iconst 1, 1) := by decide +kernel
theorem dX10_append_66 : decode cX10_append 66 = .ok (.isub, 1) := by decide +kernel
theorem dX10_append_67 : decode cX10_append 67 = .ok (.istore 4, 2) := by decide +kernel
theorem dX10_append_69 : decode cX10_append 69 = .ok (.iload 4, 2) := by decide +kernel
theorem dX10_append_71 : decode cX10_append 71 = .ok (.ifCond .lt 35, 3) := by decide +kernel
theorem dX10_append_74 : decode cX10_append 74 = .ok (.aload_n 0, 1) := by decide +kernel
theorem dX10_append_75 : decode cX10_append 75 = .ok (.getfield 9, 3) := by decide +kernel
theorem dX10_append_78 : decode cX10_append 78 = .ok (.aload_n 0, 1) := by decide +kernel
theorem dX10_append_79 : decode cX10_append 79 = .ok (.getfield 15, 3) := by decide +kernel
theorem dX10_append_82 : decode cX10_append 82 = .ok (.lload_n 1, 1) := by decide +kernel
theorem dX10_append_83 : decode cX10_append 83 = .ok (.iload 4, 2) := by decide +kernel
theorem dX10_append_85 : decode cX10_append 85 = .ok (.invokestatic 31, 3) := by decide +kernel
theorem dX10_append_88 : decode cX10_append 88 = .ok (.i2c, 1) := by decide +kernel
theorem dX10_append_89 : decode cX10_append 89 = .ok (.castore, 1) := by decide +kernel
theorem dX10_append_90 : decode cX10_append 90 = .ok (.aload_n 0, 1) := by decide +kernel
theorem dX10_append_91 : decode cX10_append 91 = .ok (.dup, 1) := by decide +kernel
theorem dX10_append_92 : decode cX10_append 92 = .ok (.getfield 15, 3) := by decide +kernel
theorem dX10_append_95 : decode cX10_append 95 = .ok (.iconst 1, 1) := by decide +kernel
theorem dX10_append_96 : decode cX10_append 96 = .ok (.iadd, 1) := by decide +kernel
theorem dX10_append_97 : decode cX10_append 97 = .ok (.putfield 15, 3) := by decide +kernel
theorem dX10_append_100 : decode cX10_append 100 = .ok (.iinc 4 (-1), 3) := by decide +kernel
theorem dX10_append_103 : decode cX10_append 103 = .ok (.goto (-34), 3) := by decide +kernel
theorem dX10_append_106 : decode cX10_append 106 = .ok (.iconst 1, 1) := by decide +kernel
theorem dX10_append_107 : decode cX10_append 107 = .ok (.ireturn, 1) := by decide +kernel
theorem dX10_typedCharacter_0 : decode cX10_typedCharacter 0 = .ok (.lload_n 0, 1) := by decide +kernel
theorem dX10_typedCharacter_1 : decode cX10_typedCharacter 1 = .ok (.bipush 8, 2) := by decide +kernel
theorem dX10_typedCharacter_3 : decode cX10_typedCharacter 3 = .ok (.iload_n 2, 1) := by decide +kernel
theorem dX10_typedCharacter_4 : decode cX10_typedCharacter 4 = .ok (.imul, 1) := by decide +kernel
theorem dX10_typedCharacter_5 : decode cX10_typedCharacter 5 = .ok (.lushr, 1) := by decide +kernel
theorem dX10_typedCharacter_6 : decode cX10_typedCharacter 6 = .ok (.l2i, 1) := by decide +kernel
theorem dX10_typedCharacter_7 : decode cX10_typedCharacter 7 = .ok (.sipush 255, 3) := by decide +kernel
theorem dX10_typedCharacter_10 : decode cX10_typedCharacter 10 = .ok (.iand, 1) := by decide +kernel
theorem dX10_typedCharacter_11 : decode cX10_typedCharacter 11 = .ok (.ireturn, 1) := by decide +kernel
set_option maxRecDepth 20000 in
theorem ggX10_goToStart_X10_advance : GoodIn wsX10_goToStart wsX10_advance := goodIn_s _ [(6, 1), (1, 1), (7, 7), (5, 1), (14, 11)] rfl (by decide +kernel)
set_option maxRecDepth 20000 in
theorem gX10_goToStart_X10_advance : GoodIn wsX10_goToStart (wsV RX10 35 RX10 yX10_advance wsX10_advance) := goodIn_app (goodIn_r _ [2, 3, 4, 5] rfl (by decide +kernel)) ggX10_goToStart_X10_advance
theorem dX10_goToStart_0 : decode cX10_goToStart 0 = .ok (.aload_n 0, 1) := by decide +kernel
theorem dX10_goToStart_1 : decode cX10_goToStart 1 = .ok (.iconst 0, 1) := by decide +kernel
theorem dX10_goToStart_2 : decode cX10_goToStart 2 = .ok (.putfield 28, 3) := by decide +kernel
theorem dX10_goToStart_5 : decode cX10_goToStart 5 = .ok (.aload_n 0, 1) := by decide +kernel
theorem dX10_goToStart_6 : decode cX10_goToStart 6 = .ok (.invokevirtual 35, 3) := by decide +kernel
theorem dX10_goToStart_9 : decode cX10_goToStart 9 = .ok (.return_, 1) := by decide +kernel
set_option maxRecDepth 20000 in
theorem ggX10_advance_X10_takeNumber : GoodIn wsX10_advance wsX10_takeNumber := goodIn_s _ [(10, 2), (1, 5), (15, 6)] rfl (by decide +kernel)
set_option maxRecDepth 20000 in
theorem gX10_advance_X10_takeNumber : GoodIn wsX10_advance (wsV RX10 38 RX10 yX10_takeNumber wsX10_takeNumber) := goodIn_app (goodIn_r _ [6, 7, 8, 9] rfl (by decide +kernel)) ggX10_advance_X10_takeNumber
set_option maxRecDepth 20000 in
theorem ggX10_advance_X10_isWord : GoodIn wsX10_advance wsX10_isWord := goodIn_r _ [14] rfl (by decide +kernel)
set_option maxRecDepth 20000 in
theorem gX10_advance_X10_isWord : GoodIn wsX10_advance (va_wsS RX10 41 yX10_isWord wsX10_isWord) := goodIn_app (goodIn_r _ [12, 13, 9] rfl (by decide +kernel)) ggX10_advance_X10_isWord
theorem dX10_advance_0 : decode cX10_advance 0 = .ok (.aload_n 0, 1) := by decide +kernel
theorem dX10_advance_1 : decode cX10_advance 1 = .ok (.getfield 28, 3) := by decide +kernel
theorem dX10_advance_4 : decode cX10_advance 4 = .ok (.aload_n 0, 1) := by decide +kernel
theorem dX10_advance_5 : decode cX10_advance 5 = .ok (.getfield 15, 3) := by decide +kernel
theorem dX10_advance_8 : decode cX10_advance 8 = .ok (.if_icmp .ge 30, 3) := by decide +kernel
theorem dX10_advance_11 : decode cX10_advance 11 = .ok (.aload_n 0, 1) := by decide +kernel
theorem dX10_advance_12 : decode cX10_advance 12 = .ok (.getfield 9, 3) := by decide +kernel
theorem dX10_advance_15 : decode cX10_advance 15 = .ok (.aload_n 0, 1) := by decide +kernel
theorem dX10_advance_16 : decode cX10_advance 16 = .ok (.getfield 28, 3) := by decide +kernel
theorem dX10_advance_19 : decode cX10_advance 19 = .ok (.caload, 1) := by decide +kernel
theorem dX10_advance_20 : decode cX10_advance 20 = .ok (.bipush 32, 2) := by decide +kernel
theorem dX10_advance_22 : decode cX10_advance 22 = .ok (.if_icmp .ne 16, 3) := by decide +kernel
theorem dX10_advance_25 : decode cX10_advance 25 = .ok (.aload_n 0, 1) := by decide +kernel
theorem dX10_advance_26 : decode cX10_advance 26 = .ok (.dup, 1) := by decide +kernel
theorem dX10_advance_27 : decode cX10_advance 27 = .ok (.getfield 28, 3) := by decide +kernel
theorem dX10_advance_30 : decode cX10_advance 30 = .ok (.iconst 1, 1) := by decide +kernel
theorem dX10_advance_31 : decode cX10_advance 31 = .ok (.iadd, 1) := by decide +kernel
theorem dX10_advance_32 : decode cX10_advance 32 = .ok (.putfield 28, 3) := by decide +kernel
theorem dX10_advance_35 : decode cX10_advance 35 = .ok (.goto (-35), 3) := by decide +kernel
theorem dX10_advance_38 : decode cX10_advance 38 = .ok (.aload_n 0, 1) := by decide +kernel
theorem dX10_advance_39 : decode cX10_advance 39 = .ok (.aload_n 0, 1) := by decide +kernel
theorem dX10_advance_40 : decode cX10_advance 40 = .ok (.getfield 28, 3) := by decide +kernel
theorem dX10_advance_43 : decode cX10_advance 43 = .ok (.putfield 22, 3) := by decide +kernel
theorem dX10_advance_46 : decode cX10_advance 46 = .ok (.aload_n 0, 1) := by decide +kernel
theorem dX10_advance_47 : decode cX10_advance 47 = .ok (.getfield 28, 3) := by decide +kernel
theorem dX10_advance_50 : decode cX10_advance 50 = .ok (.aload_n 0, 1) := by decide +kernel
theorem dX10_advance_51 : decode cX10_advance 51 = .ok (.getfield 15, 3) := by decide +kernel
theorem dX10_advance_54 : decode cX10_advance 54 = .ok (.if_icmp .lt 9, 3) := by decide +kernel
theorem dX10_advance_57 : decode cX10_advance 57 = .ok (.aload_n 0, 1) := by decide +kernel
theorem dX10_advance_58 : decode cX10_advance 58 = .ok (.iconst 0, 1) := by decide +kernel
theorem dX10_advance_59 : decode cX10_advance 59 = .ok (.putfield 19, 3) := by decide +kernel
theorem dX10_advance_62 : decode cX10_advance 62 = .ok (.return_, 1) := by decide +kernel
theorem dX10_advance_63 : decode cX10_advance 63 = .ok (.aload_n 0, 1) := by decide +kernel
theorem dX10_advance_64 : decode cX10_advance 64 = .ok (.invokevirtual 38, 3) := by decide +kernel
theorem dX10_advance_67 : decode cX10_advance 67 = .ok (.aload_n 0, 1) := by decide +kernel
theorem dX10_advance_68 : decode cX10_advance 68 = .ok (.getfield 28, 3) := by decide +kernel
theorem dX10_advance_71 : decode cX10_advance 71 = .ok (.aload_n 0, 1) := by decide +kernel
theorem dX10_advance_72 : decode cX10_advance 72 = .ok (.getfield 22, 3) := by decide +kernel
theorem dX10_advance_75 : decode cX10_advance 75 = .ok (.if_icmp .ne 45, 3) := by decide +kernel
theorem dX10_advance_78 : decode cX10_advance 78 = .ok (.aload_n 0, 1) := by decide +kernel
theorem dX10_advance_79 : decode cX10_advance 79 = .ok (.aload_n 0, 1) := by decide +kernel
theorem dX10_advance_80 : decode cX10_advance 80 = .ok (.getfield 9, 3) := by decide +kernel
theorem dX10_advance_83 : decode cX10_advance 83 = .ok (.aload_n 0, 1) := by decide +kernel
theorem dX10_advance_84 : decode cX10_advance 84 = .ok (.getfield 28, 3) := by decide +kernel
theorem dX10_advance_87 : decode cX10_advance 87 = .ok (.caload, 1) := by decide +kernel
theorem dX10_advance_88 : decode cX10_advance 88 = .ok (.invokestatic 41, 3) := by decide +kernel
theorem dX10_advance_91 : decode cX10_advance 91 = .ok (.ifCond .eq 15, 3) := by decide +kernel
theorem dX10_advance_94 : decode cX10_advance 94 = .ok (.aload_n 0, 1) := by decide +kernel
theorem dX10_advance_95 : decode cX10_advance 95 = .ok (.getfield 9, 3) := by decide +kernel
theorem dX10_advance_98 : decode cX10_advance 98 = .ok (.aload_n 0, 1) := by decide +kernel
theorem dX10_advance_99 : decode cX10_advance 99 = .ok (.getfield 28, 3) := by decide +kernel
theorem dX10_advance_102 : decode cX10_advance 102 = .ok (.caload, 1) := by decide +kernel
theorem dX10_advance_103 : decode cX10_advance 103 = .ok (.goto 4, 3) := by decide +kernel
theorem dX10_advance_106 : decode cX10_advance 106 = .ok (.iconst 1, 1) := by decide +kernel
theorem dX10_advance_107 : decode cX10_advance 107 = .ok (.putfield 19, 3) := by decide +kernel
theorem dX10_advance_110 : decode cX10_advance 110 = .ok (.aload_n 0, 1) := by decide +kernel
theorem dX10_advance_111 : decode cX10_advance 111 = .ok (.dup, 1) := by decide +kernel
theorem dX10_advance_112 : decode cX10_advance 112 = .ok (.getfield 28, 3) := by decide +kernel
theorem dX10_advance_115 : decode cX10_advance 115 = .ok (.iconst 1, 1) := by decide +kernel
theorem dX10_advance_116 : decode cX10_advance 116 = .ok (.iadd, 1) := by decide +kernel
theorem dX10_advance_117 : decode cX10_advance 117 = .ok (.putfield 28, 3) := by decide +kernel
theorem dX10_advance_120 : decode cX10_advance 120 = .ok (.return_, 1) := by decide +kernel
theorem dX10_takeNumber_0 : decode cX10_takeNumber 0 = .ok (.aload_n 0, 1) := by decide +kernel
theorem dX10_takeNumber_1 : decode cX10_takeNumber 1 = .ok (.iconst 0, 1) := by decide +kernel
theorem dX10_takeNumber_2 : decode cX10_takeNumber 2 = .ok (.putfield 25, 3) := by decide +kernel
theorem dX10_takeNumber_5 : decode cX10_takeNumber 5 = .ok (.aload_n 0, 1) := by decide +kernel
theorem dX10_takeNumber_6 : decode cX10_takeNumber 6 = .ok (.getfield 28, 3) := by decide +kernel
theorem dX10_takeNumber_9 : decode cX10_takeNumber 9 = .ok (.aload_n 0, 1) := by decide +kernel
theorem dX10_takeNumber_10 : decode cX10_takeNumber 10 = .ok (.getfield 15, 3) := by decide +kernel
theorem dX10_takeNumber_13 : decode cX10_takeNumber 13 = .ok (.if_icmp .ge 81, 3) := by decide +kernel
theorem dX10_takeNumber_16 : decode cX10_takeNumber 16 = .ok (.aload_n 0, 1) := by decide +kernel
theorem dX10_takeNumber_17 : decode cX10_takeNumber 17 = .ok (.getfield 9, 3) := by decide +kernel
theorem dX10_takeNumber_20 : decode cX10_takeNumber 20 = .ok (.aload_n 0, 1) := by decide +kernel
theorem dX10_takeNumber_21 : decode cX10_takeNumber 21 = .ok (.getfield 28, 3) := by decide +kernel
theorem dX10_takeNumber_24 : decode cX10_takeNumber 24 = .ok (.caload, 1) := by decide +kernel
theorem dX10_takeNumber_25 : decode cX10_takeNumber 25 = .ok (.bipush 48, 2) := by decide +kernel
theorem dX10_takeNumber_27 : decode cX10_takeNumber 27 = .ok (.if_icmp .lt 67, 3) := by decide +kernel
theorem dX10_takeNumber_30 : decode cX10_takeNumber 30 = .ok (.aload_n 0, 1) := by decide +kernel
theorem dX10_takeNumber_31 : decode cX10_takeNumber 31 = .ok (.getfield 9, 3) := by decide +kernel
theorem dX10_takeNumber_34 : decode cX10_takeNumber 34 = .ok (.aload_n 0, 1) := by decide +kernel
theorem dX10_takeNumber_35 : decode cX10_takeNumber 35 = .ok (.getfield 28, 3) := by decide +kernel
theorem dX10_takeNumber_38 : decode cX10_takeNumber 38 = .ok (.caload, 1) := by decide +kernel
theorem dX10_takeNumber_39 : decode cX10_takeNumber 39 = .ok (.bipush 57, 2) := by decide +kernel
theorem dX10_takeNumber_41 : decode cX10_takeNumber 41 = .ok (.if_icmp .gt 53, 3) := by decide +kernel
theorem dX10_takeNumber_44 : decode cX10_takeNumber 44 = .ok (.aload_n 0, 1) := by decide +kernel
theorem dX10_takeNumber_45 : decode cX10_takeNumber 45 = .ok (.getfield 28, 3) := by decide +kernel
theorem dX10_takeNumber_48 : decode cX10_takeNumber 48 = .ok (.aload_n 0, 1) := by decide +kernel
theorem dX10_takeNumber_49 : decode cX10_takeNumber 49 = .ok (.getfield 22, 3) := by decide +kernel
theorem dX10_takeNumber_52 : decode cX10_takeNumber 52 = .ok (.isub, 1) := by decide +kernel
theorem dX10_takeNumber_53 : decode cX10_takeNumber 53 = .ok (.iconst 4, 1) := by decide +kernel
theorem dX10_takeNumber_54 : decode cX10_takeNumber 54 = .ok (.if_icmp .ge 27, 3) := by decide +kernel
theorem dX10_takeNumber_57 : decode cX10_takeNumber 57 = .ok (.aload_n 0, 1) := by decide +kernel
theorem dX10_takeNumber_58 : decode cX10_takeNumber 58 = .ok (.bipush 10, 2) := by decide +kernel
theorem dX10_takeNumber_60 : decode cX10_takeNumber 60 = .ok (.aload_n 0, 1) := by decide +kernel
theorem dX10_takeNumber_61 : decode cX10_takeNumber 61 = .ok (.getfield 25, 3) := by decide +kernel
theorem dX10_takeNumber_64 : decode cX10_takeNumber 64 = .ok (.imul, 1) := by decide +kernel
theorem dX10_takeNumber_65 : decode cX10_takeNumber 65 = .ok (.aload_n 0, 1) := by decide +kernel
theorem dX10_takeNumber_66 : decode cX10_takeNumber 66 = .ok (.getfield 9, 3) := by decide +kernel
theorem dX10_takeNumber_69 : decode cX10_takeNumber 69 = .ok (.aload_n 0, 1) := by decide +kernel
theorem dX10_takeNumber_70 : decode cX10_takeNumber 70 = .ok (.getfield 28, 3) := by decide +kernel
theorem dX10_takeNumber_73 : decode cX10_takeNumber 73 = .ok (.caload, 1) := by decide +kernel
theorem dX10_takeNumber_74 : decode cX10_takeNumber 74 = .ok (.iadd, 1) := by decide +kernel
theorem dX10_takeNumber_75 : decode cX10_takeNumber 75 = .ok (.bipush 48, 2) := by decide +kernel
theorem dX10_takeNumber_77 : decode cX10_takeNumber 77 = .ok (.isub, 1) := by decide +kernel
theorem dX10_takeNumber_78 : decode cX10_takeNumber 78 = .ok (.putfield 25, 3) := by decide +kernel
theorem dX10_takeNumber_81 : decode cX10_takeNumber 81 = .ok (.aload_n 0, 1) := by decide +kernel
theorem dX10_takeNumber_82 : decode cX10_takeNumber 82 = .ok (.dup, 1) := by decide +kernel
theorem dX10_takeNumber_83 : decode cX10_takeNumber 83 = .ok (.getfield 28, 3) := by decide +kernel
theorem dX10_takeNumber_86 : decode cX10_takeNumber 86 = .ok (.iconst 1, 1) := by decide +kernel
theorem dX10_takeNumber_87 : decode cX10_takeNumber 87 = .ok (.iadd, 1) := by decide +kernel
theorem dX10_takeNumber_88 : decode cX10_takeNumber 88 = .ok (.putfield 28, 3) := by decide +kernel
theorem dX10_takeNumber_91 : decode cX10_takeNumber 91 = .ok (.goto (-86), 3) := by decide +kernel
theorem dX10_takeNumber_94 : decode cX10_takeNumber 94 = .ok (.aload_n 0, 1) := by decide +kernel
theorem dX10_takeNumber_95 : decode cX10_takeNumber 95 = .ok (.aload_n 0, 1) := by decide +kernel
theorem dX10_takeNumber_96 : decode cX10_takeNumber 96 = .ok (.getfield 28, 3) := by decide +kernel
theorem dX10_takeNumber_99 : decode cX10_takeNumber 99 = .ok (.aload_n 0, 1) := by decide +kernel
theorem dX10_takeNumber_100 : decode cX10_takeNumber 100 = .ok (.getfield 22, 3) := by decide +kernel
theorem dX10_takeNumber_103 : decode cX10_takeNumber 103 = .ok (.isub, 1) := by decide +kernel
theorem dX10_takeNumber_104 : decode cX10_takeNumber 104 = .ok (.iconst 4, 1) := by decide +kernel
theorem dX10_takeNumber_105 : decode cX10_takeNumber 105 = .ok (.if_icmp .gt 8, 3) := by decide +kernel
theorem dX10_takeNumber_108 : decode cX10_takeNumber 108 = .ok (.bipush 48, 2) := by decide +kernel
theorem dX10_takeNumber_110 : decode cX10_takeNumber 110 = .ok (.goto 4, 3) := by decide +kernel
theorem dX10_takeNumber_113 : decode cX10_takeNumber 113 = .ok (.iconst 1, 1) := by decide +kernel
theorem dX10_takeNumber_114 : decode cX10_takeNumber 114 = .ok (.putfield 19, 3) := by decide +kernel
theorem dX10_takeNumber_117 : decode cX10_takeNumber 117 = .ok (.return_, 1) := by decide +kernel
theorem dX10_isWord_0 : decode cX10_isWord 0 = .ok (.iload_n 0, 1) := by decide +kernel
theorem dX10_isWord_1 : decode cX10_isWord 1 = .ok (.lookupswitch 101 #[(40, 99), (41, 99), (44, 99), (45, 99), (47, 99), (58, 99), (63, 99), (65, 99), (66, 99), (91, 99), (93, 99)], 99) := by decide +kernel
theorem dX10_isWord_100 : decode cX10_isWord 100 = .ok (.iconst 1, 1) := by decide +kernel
theorem dX10_isWord_101 : decode cX10_isWord 101 = .ok (.ireturn, 1) := by decide +kernel
theorem dX10_isWord_102 : decode cX10_isWord 102 = .ok (.iconst 0, 1) := by decide +kernel
theorem dX10_isWord_103 : decode cX10_isWord 103 = .ok (.ireturn, 1) := by decide +kernel
set_option maxRecDepth 20000 in
theorem ggX11_init_X5_init : GoodIn wsX11_init wsX5_init := goodIn_s _ [(46, 2), (2, 2), (48, 7), (36, 2), (55, 16), (8, 1), (71, 29), (176, 13), (241, 6), (232, 4), (247, 8)] rfl (by decide +kernel)
set_option maxRecDepth 20000 in
theorem gX11_init_X5_init_n11 : GoodIn wsX11_init (wsX5_init) := ggX11_init_X5_init
set_option maxRecDepth 20000 in
theorem ggX11_init_X8_init : GoodIn wsX11_init wsX8_init := goodIn_s _ [(102, 2), (2, 2), (104, 2), (65, 1), (106, 2), (62, 1), (108, 6), (31, 2), (114, 22), (205, 13), (229, 3), (255, 3)] rfl (by decide +kernel)
set_option maxRecDepth 20000 in
theorem gX11_init_X8_init : GoodIn wsX11_init (wsX8_init) := ggX11_init_X8_init
set_option maxRecDepth 20000 in
theorem ggX11_init_X6_init : GoodIn wsX11_init wsX6_init := goodIn_s _ [(138, 2), (2, 2), (65, 1), (140, 1), (56, 1), (141, 3), (31, 2), (144, 3), (122, 6), (218, 5), (229, 3)] rfl (by decide +kernel)
set_option maxRecDepth 20000 in
theorem gX11_init_X6_init : GoodIn wsX11_init (wsX6_init) := ggX11_init_X6_init
set_option maxRecDepth 20000 in
theorem ggX11_init_X4_init : GoodIn wsX11_init wsX4_init := goodIn_s _ [(148, 2), (2, 2), (150, 1), (31, 2), (151, 6), (118, 2), (157, 2), (122, 5), (65, 1), (127, 9), (229, 3), (223, 6), (255, 3)] rfl (by decide +kernel)
set_option maxRecDepth 20000 in
theorem gX11_init_X4_init_n63 : GoodIn wsX11_init (wsX4_init) := ggX11_init_X4_init
set_option maxRecDepth 20000 in
theorem ggX11_init_X0_init : GoodIn wsX11_init wsX0_init := goodIn_s _ [(123, 2), (2, 2), (125, 2), (65, 1), (127, 1), (229, 3)] rfl (by decide +kernel)
set_option maxRecDepth 20000 in
theorem gX11_init_X0_init : GoodIn wsX11_init (wsX0_init) := ggX11_init_X0_init
set_option maxRecDepth 20000 in
theorem ggX11_init_X2_init : GoodIn wsX11_init wsX2_init := goodIn_s _ [(79, 2), (2, 2), (65, 1), (81, 5), (62, 1), (86, 14), (232, 4), (247, 8)] rfl (by decide +kernel)
set_option maxRecDepth 20000 in
theorem gX11_init_X2_init : GoodIn wsX11_init (wsX2_init) := ggX11_init_X2_init
set_option maxRecDepth 20000 in
theorem ggX11_init_X9_init : GoodIn wsX11_init wsX9_init := goodIn_s _ [(163, 2), (2, 2), (65, 1), (165, 3), (236, 3)] rfl (by decide +kernel)
set_option maxRecDepth 20000 in
theorem gX11_init_X9_init : GoodIn wsX11_init (wsX9_init) := ggX11_init_X9_init
set_option maxRecDepth 20000 in
theorem ggX11_init_X3_init : GoodIn wsX11_init wsX3_init := goodIn_s _ [(170, 2), (2, 2), (172, 2), (31, 2), (174, 2), (122, 5), (65, 1), (127, 1), (239, 2), (229, 3)] rfl (by decide +kernel)
set_option maxRecDepth 20000 in
theorem gX11_init_X3_init : GoodIn wsX11_init (wsX3_init) := ggX11_init_X3_init
theorem dX11_init_0 : decode cX11_init 0 = .ok (.aload_n 0, 1) := by decide +kernel
theorem dX11_init_1 : decode cX11_init 1 = .ok (.invokespecial 3, 3) := by decide +kernel
theorem dX11_init_4 : decode cX11_init 4 = .ok (.aload_n 0, 1) := by decide +kernel
theorem dX11_init_5 : decode cX11_init 5 = .ok (.new 9, 3) := by decide +kernel
theorem dX11_init_8 : decode cX11_init 8 = .ok (.dup, 1) := by decide +kernel
theorem dX11_init_9 : decode cX11_init 9 = .ok (.invokespecial 11, 3) := by decide +kernel
theorem dX11_init_12 : decode cX11_init 12 = .ok (.putfield 12, 3) := by decide +kernel
theorem dX11_init_15 : decode cX11_init 15 = .ok (.aload_n 0, 1) := by decide +kernel
theorem dX11_init_16 : decode cX11_init 16 = .ok (.sipush 642, 3) := by decide +kernel
theorem dX11_init_19 : decode cX11_init 19 = .ok (.newarray .char, 2) := by decide +kernel
theorem dX11_init_21 : decode cX11_init 21 = .ok (.putfield 16, 3) := by decide +kernel
theorem dX11_init_24 : decode cX11_init 24 = .ok (.aload_n 0, 1) := by decide +kernel
theorem dX11_init_25 : decode cX11_init 25 = .ok (.iconst 0, 1) := by decide +kernel
theorem dX11_init_26 : decode cX11_init 26 = .ok (.putfield 20, 3) := by decide +kernel
theorem dX11_init_29 : decode cX11_init 29 = .ok (.aload_n 0, 1) := by decide +kernel
theorem dX11_init_30 : decode cX11_init 30 = .ok (.new 24, 3) := by decide +kernel
theorem dX11_init_33 : decode cX11_init 33 = .ok (.dup, 1) := by decide +kernel
theorem dX11_init_34 : decode cX11_init 34 = .ok (.invokespecial 26, 3) := by decide +kernel
theorem dX11_init_37 : decode cX11_init 37 = .ok (.putfield 27, 3) := by decide +kernel
theorem dX11_init_40 : decode cX11_init 40 = .ok (.aload_n 0, 1) := by decide +kernel
theorem dX11_init_41 : decode cX11_init 41 = .ok (.iconst 2, 1) := by decide +kernel
theorem dX11_init_42 : decode cX11_init 42 = .ok (.anewarray 31, 3) := by decide +kernel
theorem dX11_init_45 : decode cX11_init 45 = .ok (.putfield 33, 3) := by decide +kernel
theorem dX11_init_48 : decode cX11_init 48 = .ok (.aload_n 0, 1) := by decide +kernel
theorem dX11_init_49 : decode cX11_init 49 = .ok (.iconst 2, 1) := by decide +kernel
theorem dX11_init_50 : decode cX11_init 50 = .ok (.anewarray 37, 3) := by decide +kernel
theorem dX11_init_53 : decode cX11_init 53 = .ok (.putfield 39, 3) := by decide +kernel
theorem dX11_init_56 : decode cX11_init 56 = .ok (.aload_n 0, 1) := by decide +kernel
theorem dX11_init_57 : decode cX11_init 57 = .ok (.iconst 2, 1) := by decide +kernel
theorem dX11_init_58 : decode cX11_init 58 = .ok (.anewarray 37, 3) := by decide +kernel
theorem dX11_init_61 : decode cX11_init 61 = .ok (.putfield 43, 3) := by decide +kernel
theorem dX11_init_64 : decode cX11_init 64 = .ok (.aload_n 0, 1) := by decide +kernel
theorem dX11_init_65 : decode cX11_init 65 = .ok (.iconst 2, 1) := by decide +kernel
theorem dX11_init_66 : decode cX11_init 66 = .ok (.anewarray 46, 3) := by decide +kernel
theorem dX11_init_69 : decode cX11_init 69 = .ok (.putfield 48, 3) := by decide +kernel
theorem dX11_init_72 : decode cX11_init 72 = .ok (.aload_n 0, 1) := by decide +kernel
theorem dX11_init_73 : decode cX11_init 73 = .ok (.new 46, 3) := by decide +kernel
theorem dX11_init_76 : decode cX11_init 76 = .ok (.dup, 1) := by decide +kernel
theorem dX11_init_77 : decode cX11_init 77 = .ok (.invokespecial 52, 3) := by decide +kernel
theorem dX11_init_80 : decode cX11_init 80 = .ok (.putfield 53, 3) := by decide +kernel
theorem dX11_init_83 : decode cX11_init 83 = .ok (.aload_n 0, 1) := by decide +kernel
theorem dX11_init_84 : decode cX11_init 84 = .ok (.iconst 4, 1) := by decide +kernel
theorem dX11_init_85 : decode cX11_init 85 = .ok (.anewarray 57, 3) := by decide +kernel
theorem dX11_init_88 : decode cX11_init 88 = .ok (.putfield 59, 3) := by decide +kernel
