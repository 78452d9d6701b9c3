theorem dX11_reply_2 : decode cX11_reply 2 = .ok (.invokevirtual 125, 3) := by decide +kernel
theorem dX11_reply_5 : decode cX11_reply 5 = .ok (.ifCond .eq 19, 3) := by decide +kernel
theorem dX11_reply_8 : decode cX11_reply 8 = .ok (.aload_n 0, 1) := by decide +kernel
theorem dX11_reply_9 : decode cX11_reply 9 = .ok (.getfield 59, 3) := by decide +kernel
theorem dX11_reply_12 : decode cX11_reply 12 = .ok (.iconst 2, 1) := by decide +kernel
theorem dX11_reply_13 : decode cX11_reply 13 = .ok (.iload_n 1, 1) := by decide +kernel
theorem dX11_reply_14 : decode cX11_reply 14 = .ok (.iadd, 1) := by decide +kernel
theorem dX11_reply_15 : decode cX11_reply 15 = .ok (.iconst 1, 1) := by decide +kernel
theorem dX11_reply_16 : decode cX11_reply 16 = .ok (.isub, 1) := by decide +kernel
theorem dX11_reply_17 : decode cX11_reply 17 = .ok (.aaload, 1) := by decide +kernel
theorem dX11_reply_18 : decode cX11_reply 18 = .ok (.getfield 235, 3) := by decide +kernel
theorem dX11_reply_21 : decode cX11_reply 21 = .ok (.ifCond .ne 5, 3) := by decide +kernel
theorem dX11_reply_24 : decode cX11_reply 24 = .ok (.iconst (-1), 1) := by decide +kernel
theorem dX11_reply_25 : decode cX11_reply 25 = .ok (.ireturn, 1) := by decide +kernel
theorem dX11_reply_26 : decode cX11_reply 26 = .ok (.iload_n 1, 1) := by decide +kernel
theorem dX11_reply_27 : decode cX11_reply 27 = .ok (.iconst 1, 1) := by decide +kernel
theorem dX11_reply_28 : decode cX11_reply 28 = .ok (.isub, 1) := by decide +kernel
theorem dX11_reply_29 : decode cX11_reply 29 = .ok (.istore_n 3, 1) := by decide +kernel
theorem dX11_reply_30 : decode cX11_reply 30 = .ok (.aload_n 0, 1) := by decide +kernel
theorem dX11_reply_31 : decode cX11_reply 31 = .ok (.getfield 83, 3) := by decide +kernel
theorem dX11_reply_34 : decode cX11_reply 34 = .ok (.getfield 238, 3) := by decide +kernel
theorem dX11_reply_37 : decode cX11_reply 37 = .ok (.iload_n 3, 1) := by decide +kernel
theorem dX11_reply_38 : decode cX11_reply 38 = .ok (.invokestatic 225, 3) := by decide +kernel
theorem dX11_reply_41 : decode cX11_reply 41 = .ok (.aaload, 1) := by decide +kernel
theorem dX11_reply_42 : decode cX11_reply 42 = .ok (.iload_n 2, 1) := by decide +kernel
theorem dX11_reply_43 : decode cX11_reply 43 = .ok (.invokevirtual 138, 3) := by decide +kernel
theorem dX11_reply_46 : decode cX11_reply 46 = .ok (.ifCond .eq 17, 3) := by decide +kernel
theorem dX11_reply_49 : decode cX11_reply 49 = .ok (.aload_n 0, 1) := by decide +kernel
theorem dX11_reply_50 : decode cX11_reply 50 = .ok (.getfield 48, 3) := by decide +kernel
theorem dX11_reply_53 : decode cX11_reply 53 = .ok (.iload_n 3, 1) := by decide +kernel
theorem dX11_reply_54 : decode cX11_reply 54 = .ok (.aaload, 1) := by decide +kernel
theorem dX11_reply_55 : decode cX11_reply 55 = .ok (.getfield 242, 3) := by decide +kernel
theorem dX11_reply_58 : decode cX11_reply 58 = .ok (.iload_n 2, 1) := by decide +kernel
theorem dX11_reply_59 : decode cX11_reply 59 = .ok (.iaload, 1) := by decide +kernel
theorem dX11_reply_60 : decode cX11_reply 60 = .ok (.goto 4, 3) := by decide +kernel
theorem dX11_reply_63 : decode cX11_reply 63 = .ok (.iconst (-1), 1) := by decide +kernel
theorem dX11_reply_64 : decode cX11_reply 64 = .ok (.ireturn, 1) := by decide +kernel
set_option maxRecDepth 20000 in
theorem ggX11_print_X11_isKnown : GoodIn wsX11_print wsX11_isKnown := goodIn_s _ [(8, 1), (1, 1), (9, 1), (57, 22)] rfl (by decide +kernel)
set_option maxRecDepth 20000 in
theorem gX11_print_X11_isKnown : GoodIn wsX11_print (wsV RX11 243 RX11 yX11_isKnown wsX11_isKnown) := goodIn_app (goodIn_r _ [4, 5, 6, 7] rfl (by decide +kernel)) ggX11_print_X11_isKnown
set_option maxRecDepth 20000 in
theorem ggX11_print_X4_write : GoodIn wsX11_print wsX4_write := goodIn_s _ [(14, 7), (13, 1), (21, 36), (73, 9)] rfl (by decide +kernel)
set_option maxRecDepth 20000 in
theorem gX11_print_X4_write : GoodIn wsX11_print (wsV RX11 246 RX4 yX4_write wsX4_write) := goodIn_app (goodIn_r _ [10, 11, 12, 13] rfl (by decide +kernel)) ggX11_print_X4_write
theorem dX11_print_0 : decode cX11_print 0 = .ok (.aload_n 0, 1) := by decide +kernel
theorem dX11_print_1 : decode cX11_print 1 = .ok (.iload_n 1, 1) := by decide +kernel
theorem dX11_print_2 : decode cX11_print 2 = .ok (.invokevirtual 243, 3) := by decide +kernel
theorem dX11_print_5 : decode cX11_print 5 = .ok (.ifCond .ne 5, 3) := by decide +kernel
theorem dX11_print_8 : decode cX11_print 8 = .ok (.iconst (-1), 1) := by decide +kernel
theorem dX11_print_9 : decode cX11_print 9 = .ok (.ireturn, 1) := by decide +kernel
theorem dX11_print_10 : decode cX11_print 10 = .ok (.aload_n 0, 1) := by decide +kernel
theorem dX11_print_11 : decode cX11_print 11 = .ok (.aload_n 0, 1) := by decide +kernel
theorem dX11_print_12 : decode cX11_print 12 = .ok (.getfield 59, 3) := by decide +kernel
theorem dX11_print_15 : decode cX11_print 15 = .ok (.iload_n 1, 1) := by decide +kernel
theorem dX11_print_16 : decode cX11_print 16 = .ok (.aaload, 1) := by decide +kernel
theorem dX11_print_17 : decode cX11_print 17 = .ok (.aload_n 0, 1) := by decide +kernel
theorem dX11_print_18 : decode cX11_print 18 = .ok (.getfield 16, 3) := by decide +kernel
theorem dX11_print_21 : decode cX11_print 21 = .ok (.invokevirtual 246, 3) := by decide +kernel
theorem dX11_print_24 : decode cX11_print 24 = .ok (.putfield 20, 3) := by decide +kernel
theorem dX11_print_27 : decode cX11_print 27 = .ok (.aload_n 0, 1) := by decide +kernel
theorem dX11_print_28 : decode cX11_print 28 = .ok (.getfield 20, 3) := by decide +kernel
theorem dX11_print_31 : decode cX11_print 31 = .ok (.ireturn, 1) := by decide +kernel
theorem dX11_character_0 : decode cX11_character 0 = .ok (.iload_n 1, 1) := by decide +kernel
theorem dX11_character_1 : decode cX11_character 1 = .ok (.ifCond .lt 20, 3) := by decide +kernel
theorem dX11_character_4 : decode cX11_character 4 = .ok (.iload_n 1, 1) := by decide +kernel
theorem dX11_character_5 : decode cX11_character 5 = .ok (.aload_n 0, 1) := by decide +kernel
theorem dX11_character_6 : decode cX11_character 6 = .ok (.getfield 20, 3) := by decide +kernel
theorem dX11_character_9 : decode cX11_character 9 = .ok (.if_icmp .ge 12, 3) := by decide +kernel
theorem dX11_character_12 : decode cX11_character 12 = .ok (.aload_n 0, 1) := by decide +kernel
theorem dX11_character_13 : decode cX11_character 13 = .ok (.getfield 16, 3) := by decide +kernel
theorem dX11_character_16 : decode cX11_character 16 = .ok (.iload_n 1, 1) := by decide +kernel
theorem dX11_character_17 : decode cX11_character 17 = .ok (.caload, 1) := by decide +kernel
theorem dX11_character_18 : decode cX11_character 18 = .ok (.goto 4, 3) := by decide +kernel
theorem dX11_character_21 : decode cX11_character 21 = .ok (.iconst (-1), 1) := by decide +kernel
theorem dX11_character_22 : decode cX11_character 22 = .ok (.ireturn, 1) := by decide +kernel
set_option maxRecDepth 20000 in
theorem ggX11_compare_X11_isKnown : GoodIn wsX11_compare wsX11_isKnown := goodIn_s _ [(6, 1), (1, 1), (7, 1), (54, 22)] rfl (by decide +kernel)
set_option maxRecDepth 20000 in
theorem gX11_compare_X11_isKnown : GoodIn wsX11_compare (wsV RX11 243 RX11 yX11_isKnown wsX11_isKnown) := goodIn_app (goodIn_r _ [2, 3, 4, 5] rfl (by decide +kernel)) ggX11_compare_X11_isKnown
set_option maxRecDepth 20000 in
theorem ggX11_compare_X4_order : GoodIn wsX11_compare wsX4_order := goodIn_s _ [(12, 42), (70, 9)] rfl (by decide +kernel)
set_option maxRecDepth 20000 in
theorem gX11_compare_X4_order : GoodIn wsX11_compare (wsV RX11 250 RX4 yX4_order wsX4_order) := goodIn_app (goodIn_r _ [8, 9, 10, 11] rfl (by decide +kernel)) ggX11_compare_X4_order
theorem dX11_compare_0 : decode cX11_compare 0 = .ok (.aload_n 0, 1) := by decide +kernel
theorem dX11_compare_1 : decode cX11_compare 1 = .ok (.iload_n 1, 1) := by decide +kernel
theorem dX11_compare_2 : decode cX11_compare 2 = .ok (.invokevirtual 243, 3) := by decide +kernel
theorem dX11_compare_5 : decode cX11_compare 5 = .ok (.ifCond .eq 29, 3) := by decide +kernel
theorem dX11_compare_8 : decode cX11_compare 8 = .ok (.aload_n 0, 1) := by decide +kernel
theorem dX11_compare_9 : decode cX11_compare 9 = .ok (.iload_n 2, 1) := by decide +kernel
theorem dX11_compare_10 : decode cX11_compare 10 = .ok (.invokevirtual 243, 3) := by decide +kernel
theorem dX11_compare_13 : decode cX11_compare 13 = .ok (.ifCond .eq 21, 3) := by decide +kernel
theorem dX11_compare_16 : decode cX11_compare 16 = .ok (.aload_n 0, 1) := by decide +kernel
theorem dX11_compare_17 : decode cX11_compare 17 = .ok (.getfield 59, 3) := by decide +kernel
theorem dX11_compare_20 : decode cX11_compare 20 = .ok (.iload_n 1, 1) := by decide +kernel
theorem dX11_compare_21 : decode cX11_compare 21 = .ok (.aaload, 1) := by decide +kernel
theorem dX11_compare_22 : decode cX11_compare 22 = .ok (.aload_n 0, 1) := by decide +kernel
theorem dX11_compare_23 : decode cX11_compare 23 = .ok (.getfield 59, 3) := by decide +kernel
theorem dX11_compare_26 : decode cX11_compare 26 = .ok (.iload_n 2, 1) := by decide +kernel
theorem dX11_compare_27 : decode cX11_compare 27 = .ok (.aaload, 1) := by decide +kernel
theorem dX11_compare_28 : decode cX11_compare 28 = .ok (.invokevirtual 250, 3) := by decide +kernel
theorem dX11_compare_31 : decode cX11_compare 31 = .ok (.goto 5, 3) := by decide +kernel
theorem dX11_compare_34 : decode cX11_compare 34 = .ok (.bipush (-2), 2) := by decide +kernel
theorem dX11_compare_36 : decode cX11_compare 36 = .ok (.ireturn, 1) := by decide +kernel
set_option maxRecDepth 20000 in
theorem ggX11_check_X11_getsValue : GoodIn wsX11_check wsX11_getsValue := goodIn_s _ [(7, 8), (1, 1), (15, 68), (6, 1), (83, 157), (246, 22), (240, 6), (268, 3)] rfl (by decide +kernel)
set_option maxRecDepth 20000 in
theorem gX11_check_X11_getsValue : GoodIn wsX11_check (wsV RX11 254 RX11 yX11_getsValue wsX11_getsValue) := goodIn_app (goodIn_r _ [3, 4, 5, 6] rfl (by decide +kernel)) ggX11_check_X11_getsValue
theorem dX11_check_0 : decode cX11_check 0 = .ok (.aload_n 0, 1) := by decide +kernel
theorem dX11_check_1 : decode cX11_check 1 = .ok (.getfield 59, 3) := by decide +kernel
theorem dX11_check_4 : decode cX11_check 4 = .ok (.iconst 0, 1) := by decide +kernel
theorem dX11_check_5 : decode cX11_check 5 = .ok (.aaload, 1) := by decide +kernel
theorem dX11_check_6 : decode cX11_check 6 = .ok (.getfield 235, 3) := by decide +kernel
theorem dX11_check_9 : decode cX11_check 9 = .ok (.ifCond .ne 5, 3) := by decide +kernel
theorem dX11_check_12 : decode cX11_check 12 = .ok (.iconst (-1), 1) := by decide +kernel
theorem dX11_check_13 : decode cX11_check 13 = .ok (.ireturn, 1) := by decide +kernel
theorem dX11_check_14 : decode cX11_check 14 = .ok (.aload_n 0, 1) := by decide +kernel
theorem dX11_check_15 : decode cX11_check 15 = .ok (.iconst 0, 1) := by decide +kernel
theorem dX11_check_16 : decode cX11_check 16 = .ok (.invokevirtual 254, 3) := by decide +kernel
theorem dX11_check_19 : decode cX11_check 19 = .ok (.ifCond .eq 15, 3) := by decide +kernel
theorem dX11_check_22 : decode cX11_check 22 = .ok (.aload_n 0, 1) := by decide +kernel
theorem dX11_check_23 : decode cX11_check 23 = .ok (.iconst 1, 1) := by decide +kernel
theorem dX11_check_24 : decode cX11_check 24 = .ok (.invokevirtual 254, 3) := by decide +kernel
theorem dX11_check_27 : decode cX11_check 27 = .ok (.ifCond .eq 7, 3) := by decide +kernel
theorem dX11_check_30 : decode cX11_check 30 = .ok (.iconst 1, 1) := by decide +kernel
theorem dX11_check_31 : decode cX11_check 31 = .ok (.goto 4, 3) := by decide +kernel
theorem dX11_check_34 : decode cX11_check 34 = .ok (.iconst 0, 1) := by decide +kernel
theorem dX11_check_35 : decode cX11_check 35 = .ok (.ireturn, 1) := by decide +kernel
theorem dX11_other_0 : decode cX11_other 0 = .ok (.iconst 1, 1) := by decide +kernel
theorem dX11_other_1 : decode cX11_other 1 = .ok (.iload_n 0, 1) := by decide +kernel
theorem dX11_other_2 : decode cX11_other 2 = .ok (.isub, 1) := by decide +kernel
theorem dX11_other_3 : decode cX11_other 3 = .ok (.ireturn, 1) := by decide +kernel
theorem dX11_isPlayer_0 : decode cX11_isPlayer 0 = .ok (.iload_n 0, 1) := by decide +kernel
theorem dX11_isPlayer_1 : decode cX11_isPlayer 1 = .ok (.iconst 1, 1) := by decide +kernel
theorem dX11_isPlayer_2 : decode cX11_isPlayer 2 = .ok (.if_icmp .eq 8, 3) := by decide +kernel
theorem dX11_isPlayer_5 : decode cX11_isPlayer 5 = .ok (.iload_n 0, 1) := by decide +kernel
theorem dX11_isPlayer_6 : decode cX11_isPlayer 6 = .ok (.iconst 2, 1) := by decide +kernel
theorem dX11_isPlayer_7 : decode cX11_isPlayer 7 = .ok (.if_icmp .ne 7, 3) := by decide +kernel
theorem dX11_isPlayer_10 : decode cX11_isPlayer 10 = .ok (.iconst 1, 1) := by decide +kernel
theorem dX11_isPlayer_11 : decode cX11_isPlayer 11 = .ok (.goto 4, 3) := by decide +kernel
theorem dX11_isPlayer_14 : decode cX11_isPlayer 14 = .ok (.iconst 0, 1) := by decide +kernel
theorem dX11_isPlayer_15 : decode cX11_isPlayer 15 = .ok (.ireturn, 1) := by decide +kernel
set_option maxRecDepth 20000 in
theorem ggX11_isPlaying_X11_isPlayer : GoodIn wsX11_isPlaying wsX11_isPlayer := goodIn_r _ [5] rfl (by decide +kernel)
set_option maxRecDepth 20000 in
theorem gX11_isPlaying_X11_isPlayer : GoodIn wsX11_isPlaying (va_wsS RX11 218 yX11_isPlayer wsX11_isPlayer) := goodIn_app (goodIn_r _ [2, 3, 4] rfl (by decide +kernel)) ggX11_isPlaying_X11_isPlayer
theorem dX11_isPlaying_0 : decode cX11_isPlaying 0 = .ok (.aload_n 0, 1) := by decide +kernel
theorem dX11_isPlaying_1 : decode cX11_isPlaying 1 = .ok (.getfield 87, 3) := by decide +kernel
theorem dX11_isPlaying_4 : decode cX11_isPlaying 4 = .ok (.ifCond .eq 14, 3) := by decide +kernel
theorem dX11_isPlaying_7 : decode cX11_isPlaying 7 = .ok (.iload_n 1, 1) := by decide +kernel
theorem dX11_isPlaying_8 : decode cX11_isPlaying 8 = .ok (.invokestatic 218, 3) := by decide +kernel
theorem dX11_isPlaying_11 : decode cX11_isPlaying 11 = .ok (.ifCond .eq 7, 3) := by decide +kernel
theorem dX11_isPlaying_14 : decode cX11_isPlaying 14 = .ok (.iconst 1, 1) := by decide +kernel
theorem dX11_isPlaying_15 : decode cX11_isPlaying 15 = .ok (.goto 4, 3) := by decide +kernel
theorem dX11_isPlaying_18 : decode cX11_isPlaying 18 = .ok (.iconst 0, 1) := by decide +kernel
theorem dX11_isPlaying_19 : decode cX11_isPlaying 19 = .ok (.ireturn, 1) := by decide +kernel
theorem dX11_sideOf_0 : decode cX11_sideOf 0 = .ok (.aload_n 0, 1) := by decide +kernel
theorem dX11_sideOf_1 : decode cX11_sideOf 1 = .ok (.getfield 83, 3) := by decide +kernel
theorem dX11_sideOf_4 : decode cX11_sideOf 4 = .ok (.getfield 238, 3) := by decide +kernel
theorem dX11_sideOf_7 : decode cX11_sideOf 7 = .ok (.iload_n 1, 1) := by decide +kernel
theorem dX11_sideOf_8 : decode cX11_sideOf 8 = .ok (.iconst 1, 1) := by decide +kernel
theorem dX11_sideOf_9 : decode cX11_sideOf 9 = .ok (.isub, 1) := by decide +kernel
theorem dX11_sideOf_10 : decode cX11_sideOf 10 = .ok (.aaload, 1) := by decide +kernel
theorem dX11_sideOf_11 : decode cX11_sideOf 11 = .ok (.areturn, 1) := by decide +kernel
theorem dX11_isKnown_0 : decode cX11_isKnown 0 = .ok (.iload_n 1, 1) := by decide +kernel
theorem dX11_isKnown_1 : decode cX11_isKnown 1 = .ok (.ifCond .lt 24, 3) := by decide +kernel
theorem dX11_isKnown_4 : decode cX11_isKnown 4 = .ok (.iload_n 1, 1) := by decide +kernel
theorem dX11_isKnown_5 : decode cX11_isKnown 5 = .ok (.iconst 4, 1) := by decide +kernel
theorem dX11_isKnown_6 : decode cX11_isKnown 6 = .ok (.if_icmp .ge 19, 3) := by decide +kernel
theorem dX11_isKnown_9 : decode cX11_isKnown 9 = .ok (.aload_n 0, 1) := by decide +kernel
theorem dX11_isKnown_10 : decode cX11_isKnown 10 = .ok (.getfield 59, 3) := by decide +kernel
theorem dX11_isKnown_13 : decode cX11_isKnown 13 = .ok (.iload_n 1, 1) := by decide +kernel
theorem dX11_isKnown_14 : decode cX11_isKnown 14 = .ok (.aaload, 1) := by decide +kernel
theorem dX11_isKnown_15 : decode cX11_isKnown 15 = .ok (.getfield 235, 3) := by decide +kernel
theorem dX11_isKnown_18 : decode cX11_isKnown 18 = .ok (.ifCond .eq 7, 3) := by decide +kernel
theorem dX11_isKnown_21 : decode cX11_isKnown 21 = .ok (.iconst 1, 1) := by decide +kernel
theorem dX11_isKnown_22 : decode cX11_isKnown 22 = .ok (.goto 4, 3) := by decide +kernel
theorem dX11_isKnown_25 : decode cX11_isKnown 25 = .ok (.iconst 0, 1) := by decide +kernel
theorem dX11_isKnown_26 : decode cX11_isKnown 26 = .ok (.ireturn, 1) := by decide +kernel
set_option maxRecDepth 20000 in
theorem ggX11_isGood_X9_isGood : GoodIn wsX11_isGood wsX9_isGood := goodIn_s _ [(8, 6), (7, 1), (14, 20), (54, 11)] rfl (by decide +kernel)
set_option maxRecDepth 20000 in
theorem gX11_isGood_X9_isGood : GoodIn wsX11_isGood (wsV RX11 257 RX9 yX9_isGood wsX9_isGood) := goodIn_app (goodIn_r _ [4, 5, 6, 7] rfl (by decide +kernel)) ggX11_isGood_X9_isGood
theorem dX11_isGood_0 : decode cX11_isGood 0 = .ok (.aload_n 0, 1) := by decide +kernel
theorem dX11_isGood_1 : decode cX11_isGood 1 = .ok (.getfield 33, 3) := by decide +kernel
theorem dX11_isGood_4 : decode cX11_isGood 4 = .ok (.iload_n 1, 1) := by decide +kernel
theorem dX11_isGood_5 : decode cX11_isGood 5 = .ok (.aaload, 1) := by decide +kernel
theorem dX11_isGood_6 : decode cX11_isGood 6 = .ok (.aload_n 0, 1) := by decide +kernel
theorem dX11_isGood_7 : decode cX11_isGood 7 = .ok (.getfield 83, 3) := by decide +kernel
theorem dX11_isGood_10 : decode cX11_isGood 10 = .ok (.getfield 238, 3) := by decide +kernel
theorem dX11_isGood_13 : decode cX11_isGood 13 = .ok (.iload_n 1, 1) := by decide +kernel
theorem dX11_isGood_14 : decode cX11_isGood 14 = .ok (.aaload, 1) := by decide +kernel
theorem dX11_isGood_15 : decode cX11_isGood 15 = .ok (.invokevirtual 257, 3) := by decide +kernel
theorem dX11_isGood_18 : decode cX11_isGood 18 = .ok (.ireturn, 1) := by decide +kernel
set_option maxRecDepth 20000 in
theorem ggX11_spreadWay_X9_spread : GoodIn wsX11_spreadWay wsX9_spread := goodIn_s _ [(9, 8), (8, 1), (17, 57), (94, 16)] rfl (by decide +kernel)
set_option maxRecDepth 20000 in
theorem gX11_spreadWay_X9_spread : GoodIn wsX11_spreadWay (wsV RX11 260 RX9 yX9_spread wsX9_spread) := goodIn_app (goodIn_r _ [5, 6, 7, 8] rfl (by decide +kernel)) ggX11_spreadWay_X9_spread
theorem dX11_spreadWay_0 : decode cX11_spreadWay 0 = .ok (.aload_n 0, 1) := by decide +kernel
theorem dX11_spreadWay_1 : decode cX11_spreadWay 1 = .ok (.getfield 33, 3) := by decide +kernel
theorem dX11_spreadWay_4 : decode cX11_spreadWay 4 = .ok (.iload_n 1, 1) := by decide +kernel
theorem dX11_spreadWay_5 : decode cX11_spreadWay 5 = .ok (.aaload, 1) := by decide +kernel
theorem dX11_spreadWay_6 : decode cX11_spreadWay 6 = .ok (.aload_n 0, 1) := by decide +kernel
theorem dX11_spreadWay_7 : decode cX11_spreadWay 7 = .ok (.getfield 83, 3) := by decide +kernel
theorem dX11_spreadWay_10 : decode cX11_spreadWay 10 = .ok (.getfield 238, 3) := by decide +kernel
theorem dX11_spreadWay_13 : decode cX11_spreadWay 13 = .ok (.iload_n 1, 1) := by decide +kernel
theorem dX11_spreadWay_14 : decode cX11_spreadWay 14 = .ok (.aaload, 1) := by decide +kernel
theorem dX11_spreadWay_15 : decode cX11_spreadWay 15 = .ok (.aload_n 0, 1) := by decide +kernel
theorem dX11_spreadWay_16 : decode cX11_spreadWay 16 = .ok (.getfield 39, 3) := by decide +kernel
theorem dX11_spreadWay_19 : decode cX11_spreadWay 19 = .ok (.iload_n 1, 1) := by decide +kernel
theorem dX11_spreadWay_20 : decode cX11_spreadWay 20 = .ok (.aaload, 1) := by decide +kernel
theorem dX11_spreadWay_21 : decode cX11_spreadWay 21 = .ok (.invokevirtual 260, 3) := by decide +kernel
theorem dX11_spreadWay_24 : decode cX11_spreadWay 24 = .ok (.return_, 1) := by decide +kernel
set_option maxRecDepth 20000 in
theorem ggX11_startAnew_X9_restart : GoodIn wsX11_startAnew wsX9_restart := goodIn_s _ [(8, 3), (33, 3)] rfl (by decide +kernel)
set_option maxRecDepth 20000 in
theorem gX11_startAnew_X9_restart : GoodIn wsX11_startAnew (wsV RX11 264 RX9 yX9_restart wsX9_restart) := goodIn_app (goodIn_r _ [4, 5, 6, 7] rfl (by decide +kernel)) ggX11_startAnew_X9_restart
theorem dX11_startAnew_0 : decode cX11_startAnew 0 = .ok (.iconst 0, 1) := by decide +kernel
theorem dX11_startAnew_1 : decode cX11_startAnew 1 = .ok (.istore_n 1, 1) := by decide +kernel
theorem dX11_startAnew_2 : decode cX11_startAnew 2 = .ok (.iload_n 1, 1) := by decide +kernel
theorem dX11_startAnew_3 : decode cX11_startAnew 3 = .ok (.iconst 4, 1) := by decide +kernel
theorem dX11_startAnew_4 : decode cX11_startAnew 4 = .ok (.if_icmp .ge 19, 3) := by decide +kernel
theorem dX11_startAnew_7 : decode cX11_startAnew 7 = .ok (.aload_n 0, 1) := by decide +kernel
theorem dX11_startAnew_8 : decode cX11_startAnew 8 = .ok (.getfield 59, 3) := by decide +kernel
theorem dX11_startAnew_11 : decode cX11_startAnew 11 = .ok (.iload_n 1, 1) := by decide +kernel
theorem dX11_startAnew_12 : decode cX11_startAnew 12 = .ok (.aaload, 1) := by decide +kernel
theorem dX11_startAnew_13 : decode cX11_startAnew 13 = .ok (.iconst 0, 1) := by decide +kernel
theorem dX11_startAnew_14 : decode cX11_startAnew 14 = .ok (.putfield 235, 3) := by decide +kernel
theorem dX11_startAnew_17 : decode cX11_startAnew 17 = .ok (.iinc 1 1, 3) := by decide +kernel
theorem dX11_startAnew_20 : decode cX11_startAnew 20 = .ok (.goto (-18), 3) := by decide +kernel
theorem dX11_startAnew_23 : decode cX11_startAnew 23 = .ok (.iconst 0, 1) := by decide +kernel
theorem dX11_startAnew_24 : decode cX11_startAnew 24 = .ok (.istore_n 1, 1) := by decide +kernel
theorem dX11_startAnew_25 : decode cX11_startAnew 25 = .ok (.iload_n 1, 1) := by decide +kernel
theorem dX11_startAnew_26 : decode cX11_startAnew 26 = .ok (.iconst 2, 1) := by decide +kernel
theorem dX11_startAnew_27 : decode cX11_startAnew 27 = .ok (.if_icmp .ge 18, 3) := by decide +kernel
theorem dX11_startAnew_30 : decode cX11_startAnew 30 = .ok (.aload_n 0, 1) := by decide +kernel
theorem dX11_startAnew_31 : decode cX11_startAnew 31 = .ok (.getfield 33, 3) := by decide +kernel
theorem dX11_startAnew_34 : decode cX11_startAnew 34 = .ok (.iload_n 1, 1) := by decide +kernel
theorem dX11_startAnew_35 : decode cX11_startAnew 35 = .ok (.aaload, 1) := by decide +kernel
theorem dX11_startAnew_36 : decode cX11_startAnew 36 = .ok (.invokevirtual 264, 3) := by decide +kernel
theorem dX11_startAnew_39 : decode cX11_startAnew 39 = .ok (.iinc 1 1, 3) := by decide +kernel
theorem dX11_startAnew_42 : decode cX11_startAnew 42 = .ok (.goto (-17), 3) := by decide +kernel
theorem dX11_startAnew_45 : decode cX11_startAnew 45 = .ok (.return_, 1) := by decide +kernel
set_option maxRecDepth 20000 in
theorem ggX11_getsValue_X3_isMix : GoodIn wsX11_getsValue wsX3_isMix := goodIn_s _ [(13, 62), (241, 8), (239, 2), (249, 3)] rfl (by decide +kernel)
set_option maxRecDepth 20000 in
theorem gX11_getsValue_X3_isMix : GoodIn wsX11_getsValue (wsV RX11 267 RX3 yX3_isMix wsX3_isMix) := goodIn_app (goodIn_r _ [9, 10, 11, 12] rfl (by decide +kernel)) ggX11_getsValue_X3_isMix
set_option maxRecDepth 20000 in
theorem ggX11_getsValue_X11_other : GoodIn wsX11_getsValue wsX11_other := goodIn_r _ [78] rfl (by decide +kernel)
set_option maxRecDepth 20000 in
theorem gX11_getsValue_X11_other : GoodIn wsX11_getsValue (va_wsS RX11 225 yX11_other wsX11_other) := goodIn_app (goodIn_r _ [75, 76, 77] rfl (by decide +kernel)) ggX11_getsValue_X11_other
set_option maxRecDepth 20000 in
theorem ggX11_getsValue_X6_work : GoodIn wsX11_getsValue wsX6_work := goodIn_s _ [(83, 10), (82, 1), (93, 5), (76, 3), (98, 1), (29, 2), (24, 1), (31, 1), (27, 1), (26, 1), (32, 1), (99, 10), (41, 4), (58, 4), (53, 1), (109, 4), (66, 4), (113, 1), (34, 7), (45, 8), (54, 4), (62, 4), (114, 6), (71, 4), (22, 2), (25, 1), (120, 13), (235, 4), (241, 8), (252, 5), (239, 2), (249, 3)] rfl (by decide +kernel)
set_option maxRecDepth 20000 in
theorem gX11_getsValue_X6_work : GoodIn wsX11_getsValue (wsV RX11 229 RX6 yX6_work wsX6_work) := goodIn_app (goodIn_r _ [79, 80, 81, 82] rfl (by decide +kernel)) ggX11_getsValue_X6_work
set_option maxRecDepth 20000 in
theorem ggX11_getsValue_X6_worth : GoodIn wsX11_getsValue wsX6_worth := goodIn_s _ [(136, 1), (87, 1), (252, 5)] rfl (by decide +kernel)
set_option maxRecDepth 20000 in
theorem gX11_getsValue_X6_worth : GoodIn wsX11_getsValue (wsV RX11 232 RX6 yX6_worth wsX6_worth) := goodIn_app (goodIn_r _ [133, 134, 135, 82] rfl (by decide +kernel)) ggX11_getsValue_X6_worth
set_option maxRecDepth 20000 in
theorem ggX11_getsValue_X4_put : GoodIn wsX11_getsValue wsX4_put := goodIn_s _ [(141, 8), (38, 2), (24, 1), (40, 1), (26, 1), (32, 1), (41, 8), (27, 1), (149, 4), (53, 1), (66, 4), (153, 1), (29, 3), (154, 3), (140, 1), (157, 18), (58, 4), (175, 8), (55, 3), (183, 1), (63, 3), (184, 29), (257, 6), (249, 3), (263, 3)] rfl (by decide +kernel)
set_option maxRecDepth 20000 in
theorem gX11_getsValue_X4_put : GoodIn wsX11_getsValue (wsV RX11 201 RX4 yX4_put wsX4_put) := goodIn_app (goodIn_r _ [137, 138, 139, 140] rfl (by decide +kernel)) ggX11_getsValue_X4_put
set_option maxRecDepth 20000 in
theorem ggX11_getsValue_X4_order : GoodIn wsX11_getsValue wsX4_order := goodIn_s _ [(216, 1), (146, 1), (142, 2), (180, 1), (217, 1), (106, 2), (24, 1), (108, 1), (26, 1), (32, 1), (41, 4), (27, 1), (58, 4), (53, 1), (109, 4), (66, 4), (218, 1), (71, 4), (22, 2), (25, 1), (54, 4), (257, 6), (249, 3)] rfl (by decide +kernel)
set_option maxRecDepth 20000 in
theorem gX11_getsValue_X4_order : GoodIn wsX11_getsValue (wsV RX11 250 RX4 yX4_order wsX4_order) := goodIn_app (goodIn_r _ [213, 214, 215, 140] rfl (by decide +kernel)) ggX11_getsValue_X4_order
theorem dX11_getsValue_0 : decode cX11_getsValue 0 = .ok (.aload_n 0, 1) := by decide +kernel
theorem dX11_getsValue_1 : decode cX11_getsValue 1 = .ok (.getfield 43, 3) := by decide +kernel
theorem dX11_getsValue_4 : decode cX11_getsValue 4 = .ok (.iload_n 1, 1) := by decide +kernel
theorem dX11_getsValue_5 : decode cX11_getsValue 5 = .ok (.aaload, 1) := by decide +kernel
theorem dX11_getsValue_6 : decode cX11_getsValue 6 = .ok (.aload_n 0, 1) := by decide +kernel
theorem dX11_getsValue_7 : decode cX11_getsValue 7 = .ok (.getfield 83, 3) := by decide +kernel
theorem dX11_getsValue_10 : decode cX11_getsValue 10 = .ok (.getfield 238, 3) := by decide +kernel
theorem dX11_getsValue_13 : decode cX11_getsValue 13 = .ok (.iload_n 1, 1) := by decide +kernel
theorem dX11_getsValue_14 : decode cX11_getsValue 14 = .ok (.aaload, 1) := by decide +kernel
theorem dX11_getsValue_15 : decode cX11_getsValue 15 = .ok (.invokevirtual 267, 3) := by decide +kernel
theorem dX11_getsValue_18 : decode cX11_getsValue 18 = .ok (.ifCond .ne 5, 3) := by decide +kernel
theorem dX11_getsValue_21 : decode cX11_getsValue 21 = .ok (.iconst 0, 1) := by decide +kernel
theorem dX11_getsValue_22 : decode cX11_getsValue 22 = .ok (.ireturn, 1) := by decide +kernel
theorem dX11_getsValue_23 : decode cX11_getsValue 23 = .ok (.aload_n 0, 1) := by decide +kernel
theorem dX11_getsValue_24 : decode cX11_getsValue 24 = .ok (.getfield 53, 3) := by decide +kernel
theorem dX11_getsValue_27 : decode cX11_getsValue 27 = .ok (.aload_n 0, 1) := by decide +kernel
theorem dX11_getsValue_28 : decode cX11_getsValue 28 = .ok (.getfield 83, 3) := by decide +kernel
theorem dX11_getsValue_31 : decode cX11_getsValue 31 = .ok (.iload_n 1, 1) := by decide +kernel
theorem dX11_getsValue_32 : decode cX11_getsValue 32 = .ok (.invokestatic 225, 3) := by decide +kernel
theorem dX11_getsValue_35 : decode cX11_getsValue 35 = .ok (.aload_n 0, 1) := by decide +kernel
theorem dX11_getsValue_36 : decode cX11_getsValue 36 = .ok (.getfield 43, 3) := by decide +kernel
theorem dX11_getsValue_39 : decode cX11_getsValue 39 = .ok (.iload_n 1, 1) := by decide +kernel
theorem dX11_getsValue_40 : decode cX11_getsValue 40 = .ok (.aaload, 1) := by decide +kernel
theorem dX11_getsValue_41 : decode cX11_getsValue 41 = .ok (.invokevirtual 229, 3) := by decide +kernel
theorem dX11_getsValue_44 : decode cX11_getsValue 44 = .ok (.aload_n 0, 1) := by decide +kernel
theorem dX11_getsValue_45 : decode cX11_getsValue 45 = .ok (.getfield 64, 3) := by decide +kernel
theorem dX11_getsValue_48 : decode cX11_getsValue 48 = .ok (.aload_n 0, 1) := by decide +kernel
theorem dX11_getsValue_49 : decode cX11_getsValue 49 = .ok (.getfield 53, 3) := by decide +kernel
theorem dX11_getsValue_52 : decode cX11_getsValue 52 = .ok (.invokevirtual 232, 3) := by decide +kernel
theorem dX11_getsValue_55 : decode cX11_getsValue 55 = .ok (.aload_n 0, 1) := by decide +kernel
theorem dX11_getsValue_56 : decode cX11_getsValue 56 = .ok (.getfield 43, 3) := by decide +kernel
theorem dX11_getsValue_59 : decode cX11_getsValue 59 = .ok (.iload_n 1, 1) := by decide +kernel
theorem dX11_getsValue_60 : decode cX11_getsValue 60 = .ok (.aaload, 1) := by decide +kernel
theorem dX11_getsValue_61 : decode cX11_getsValue 61 = .ok (.getfield 193, 3) := by decide +kernel
theorem dX11_getsValue_64 : decode cX11_getsValue 64 = .ok (.iconst 0, 1) := by decide +kernel
theorem dX11_getsValue_65 : decode cX11_getsValue 65 = .ok (.aaload, 1) := by decide +kernel
theorem dX11_getsValue_66 : decode cX11_getsValue 66 = .ok (.aload_n 0, 1) := by decide +kernel
theorem dX11_getsValue_67 : decode cX11_getsValue 67 = .ok (.getfield 83, 3) := by decide +kernel
theorem dX11_getsValue_70 : decode cX11_getsValue 70 = .ok (.getfield 197, 3) := by decide +kernel
theorem dX11_getsValue_73 : decode cX11_getsValue 73 = .ok (.invokevirtual 201, 3) := by decide +kernel
theorem dX11_getsValue_76 : decode cX11_getsValue 76 = .ok (.aload_n 0, 1) := by decide +kernel
theorem dX11_getsValue_77 : decode cX11_getsValue 77 = .ok (.getfield 64, 3) := by decide +kernel
theorem dX11_getsValue_80 : decode cX11_getsValue 80 = .ok (.aload_n 0, 1) := by decide +kernel
theorem dX11_getsValue_81 : decode cX11_getsValue 81 = .ok (.getfield 59, 3) := by decide +kernel
theorem dX11_getsValue_84 : decode cX11_getsValue 84 = .ok (.iconst 0, 1) := by decide +kernel
theorem dX11_getsValue_85 : decode cX11_getsValue 85 = .ok (.aaload, 1) := by decide +kernel
theorem dX11_getsValue_86 : decode cX11_getsValue 86 = .ok (.invokevirtual 250, 3) := by decide +kernel
theorem dX11_getsValue_89 : decode cX11_getsValue 89 = .ok (.ifCond .ne 7, 3) := by decide +kernel
theorem dX11_getsValue_92 : decode cX11_getsValue 92 = .ok (.iconst 1, 1) := by decide +kernel
theorem dX11_getsValue_93 : decode cX11_getsValue 93 = .ok (.goto 4, 3) := by decide +kernel
theorem dX11_getsValue_96 : decode cX11_getsValue 96 = .ok (.iconst 0, 1) := by decide +kernel
theorem dX11_getsValue_97 : decode cX11_getsValue 97 = .ok (.ireturn, 1) := by decide +kernel
theorem dX11_gcd_0 : decode cX11_gcd 0 = .ok (.lload_n 0, 1) := by decide +kernel
theorem dX11_gcd_1 : decode cX11_gcd 1 = .ok (.invokestatic 270, 3) := by decide +kernel
theorem dX11_gcd_4 : decode cX11_gcd 4 = .ok (.lstore 4, 2) := by decide +kernel
theorem dX11_gcd_6 : decode cX11_gcd 6 = .ok (.lload_n 2, 1) := by decide +kernel
theorem dX11_gcd_7 : decode cX11_gcd 7 = .ok (.invokestatic 270, 3) := by decide +kernel
theorem dX11_gcd_10 : decode cX11_gcd 10 = .ok (.lstore 6, 2) := by decide +kernel
theorem dX11_gcd_12 : decode cX11_gcd 12 = .ok (.iconst 0, 1) := by decide +kernel
theorem dX11_gcd_13 : decode cX11_gcd 13 = .ok (.istore 8, 2) := by decide +kernel
theorem dX11_gcd_15 : decode cX11_gcd 15 = .ok (.iload 8, 2) := by decide +kernel
theorem dX11_gcd_17 : decode cX11_gcd 17 = .ok (.sipush 200, 3) := by decide +kernel
theorem dX11_gcd_20 : decode cX11_gcd 20 = .ok (.if_icmp .ge 31, 3) := by decide +kernel
theorem dX11_gcd_23 : decode cX11_gcd 23 = .ok (.lload 6, 2) := by decide +kernel
theorem dX11_gcd_25 : decode cX11_gcd 25 = .ok (.lconst 0, 1) := by decide +kernel
theorem dX11_gcd_26 : decode cX11_gcd 26 = .ok (.lcmp, 1) := by decide +kernel
theorem dX11_gcd_27 : decode cX11_gcd 27 = .ok (.ifCond .eq 24, 3) := by decide +kernel
theorem dX11_gcd_30 : decode cX11_gcd 30 = .ok (.lload 4, 2) := by decide +kernel
theorem dX11_gcd_32 : decode cX11_gcd 32 = .ok (.lload 6, 2) := by decide +kernel
theorem dX11_gcd_34 : decode cX11_gcd 34 = .ok (.lrem, 1) := by decide +kernel
theorem dX11_gcd_35 : decode cX11_gcd 35 = .ok (.lstore 9, 2) := by decide +kernel
theorem dX11_gcd_37 : decode cX11_gcd 37 = .ok (.lload 6, 2) := by decide +kernel
theorem dX11_gcd_39 : decode cX11_gcd 39 = .ok (.lstore 4, 2) := by decide +kernel
theorem dX11_gcd_41 : decode cX11_gcd 41 = .ok (.lload 9, 2) := by decide +kernel
theorem dX11_gcd_43 : decode cX11_gcd 43 = .ok (.lstore 6, 2) := by decide +kernel
theorem dX11_gcd_45 : decode cX11_gcd 45 = .ok (.iinc 8 1, 3) := by decide +kernel
theorem dX11_gcd_48 : decode cX11_gcd 48 = .ok (.goto (-33), 3) := by decide +kernel
theorem dX11_gcd_51 : decode cX11_gcd 51 = .ok (.lload 4, 2) := by decide +kernel
theorem dX11_gcd_53 : decode cX11_gcd 53 = .ok (.lreturn, 1) := by decide +kernel
set_option maxRecDepth 20000 in
theorem ggX11_lcm_X11_gcd : GoodIn wsX11_lcm wsX11_gcd := goodIn_r _ [4, 5, 6, 7, 8] rfl (by decide +kernel)
set_option maxRecDepth 20000 in
theorem gX11_lcm_X11_gcd : GoodIn wsX11_lcm (va_wsS RX11 276 yX11_gcd wsX11_gcd) := goodIn_app (goodIn_r _ [1, 2, 3] rfl (by decide +kernel)) ggX11_lcm_X11_gcd
set_option maxRecDepth 20000 in
theorem ggX11_lcm_X11_quotient : GoodIn wsX11_lcm wsX11_quotient := goodIn_r _ [11] rfl (by decide +kernel)
set_option maxRecDepth 20000 in
theorem gX11_lcm_X11_quotient : GoodIn wsX11_lcm (va_wsS RX11 280 yX11_quotient wsX11_quotient) := goodIn_app (goodIn_r _ [9, 10, 3] rfl (by decide +kernel)) ggX11_lcm_X11_quotient
theorem dX11_lcm_0 : decode cX11_lcm 0 = .ok (.lload_n 0, 1) := by decide +kernel
theorem dX11_lcm_1 : decode cX11_lcm 1 = .ok (.lload_n 0, 1) := by decide +kernel
theorem dX11_lcm_2 : decode cX11_lcm 2 = .ok (.lload_n 2, 1) := by decide +kernel
theorem dX11_lcm_3 : decode cX11_lcm 3 = .ok (.invokestatic 276, 3) := by decide +kernel
theorem dX11_lcm_6 : decode cX11_lcm 6 = .ok (.invokestatic 280, 3) := by decide +kernel
theorem dX11_lcm_9 : decode cX11_lcm 9 = .ok (.lload_n 2, 1) := by decide +kernel
theorem dX11_lcm_10 : decode cX11_lcm 10 = .ok (.lmul, 1) := by decide +kernel
theorem dX11_lcm_11 : decode cX11_lcm 11 = .ok (.lreturn, 1) := by decide +kernel
theorem dX11_quotient_0 : decode cX11_quotient 0 = .ok (.lload_n 2, 1) := by decide +kernel
theorem dX11_quotient_1 : decode cX11_quotient 1 = .ok (.lconst 0, 1) := by decide +kernel
theorem dX11_quotient_2 : decode cX11_quotient 2 = .ok (.lcmp, 1) := by decide +kernel
theorem dX11_quotient_3 : decode cX11_quotient 3 = .ok (.ifCond .ne 7, 3) := by decide +kernel
theorem dX11_quotient_6 : decode cX11_quotient 6 = .ok (.lconst 0, 1) := by decide +kernel
theorem dX11_quotient_7 : decode cX11_quotient 7 = .ok (.goto 6, 3) := by decide +kernel
theorem dX11_quotient_10 : decode cX11_quotient 10 = .ok (.lload_n 0, 1) := by decide +kernel
theorem dX11_quotient_11 : decode cX11_quotient 11 = .ok (.lload_n 2, 1) := by decide +kernel
theorem dX11_quotient_12 : decode cX11_quotient 12 = .ok (.ldiv, 1) := by decide +kernel
theorem dX11_quotient_13 : decode cX11_quotient 13 = .ok (.lreturn, 1) := by decide +kernel
