theorem dX12_from_0 : decode cX12_from 0 = .ok (.iload_n 0, 1) := by decide +kernel
theorem dX12_from_1 : decode cX12_from 1 = .ok (.sipush 4243, 3) := by decide +kernel
theorem dX12_from_4 : decode cX12_from 4 = .ok (.if_icmp .ge 11, 3) := by decide +kernel
theorem dX12_from_7 : decode cX12_from 7 = .ok (.sipush 130, 3) := by decide +kernel
theorem dX12_from_10 : decode cX12_from 10 = .ok (.iload_n 0, 1) := by decide +kernel
theorem dX12_from_11 : decode cX12_from 11 = .ok (.imul, 1) := by decide +kernel
theorem dX12_from_12 : decode cX12_from 12 = .ok (.goto 15, 3) := by decide +kernel
theorem dX12_from_15 : decode cX12_from 15 = .ok (.ldc 3, 2) := by decide +kernel
theorem dX12_from_17 : decode cX12_from 17 = .ok (.sipush 270, 3) := by decide +kernel
theorem dX12_from_20 : decode cX12_from 20 = .ok (.iload_n 0, 1) := by decide +kernel
theorem dX12_from_21 : decode cX12_from 21 = .ok (.sipush 4243, 3) := by decide +kernel
theorem dX12_from_24 : decode cX12_from 24 = .ok (.isub, 1) := by decide +kernel
theorem dX12_from_25 : decode cX12_from 25 = .ok (.imul, 1) := by decide +kernel
theorem dX12_from_26 : decode cX12_from 26 = .ok (.iadd, 1) := by decide +kernel
theorem dX12_from_27 : decode cX12_from 27 = .ok (.ireturn, 1) := by decide +kernel
set_option maxRecDepth 20000 in
theorem ggX12_bigSet_X12_from : GoodIn wsX12_bigSet wsX12_from := goodIn_r _ [8, 9] rfl (by decide +kernel)
set_option maxRecDepth 20000 in
theorem gX12_bigSet_X12_from : GoodIn wsX12_bigSet (va_wsS RX12 12 yX12_from wsX12_from) := goodIn_app (goodIn_r _ [5, 6, 7] rfl (by decide +kernel)) ggX12_bigSet_X12_from
theorem dX12_bigSet_0 : decode cX12_bigSet 0 = .ok (.aload_n 0, 1) := by decide +kernel
theorem dX12_bigSet_1 : decode cX12_bigSet 1 = .ok (.getfield 4, 3) := by decide +kernel
theorem dX12_bigSet_4 : decode cX12_bigSet 4 = .ok (.iload_n 1, 1) := by decide +kernel
theorem dX12_bigSet_5 : decode cX12_bigSet 5 = .ok (.lload_n 2, 1) := by decide +kernel
theorem dX12_bigSet_6 : decode cX12_bigSet 6 = .ok (.lconst 0, 1) := by decide +kernel
theorem dX12_bigSet_7 : decode cX12_bigSet 7 = .ok (.lcmp, 1) := by decide +kernel
theorem dX12_bigSet_8 : decode cX12_bigSet 8 = .ok (.ifCond .ge 7, 3) := by decide +kernel
theorem dX12_bigSet_11 : decode cX12_bigSet 11 = .ok (.iconst 1, 1) := by decide +kernel
theorem dX12_bigSet_12 : decode cX12_bigSet 12 = .ok (.goto 4, 3) := by decide +kernel
theorem dX12_bigSet_15 : decode cX12_bigSet 15 = .ok (.iconst 0, 1) := by decide +kernel
theorem dX12_bigSet_16 : decode cX12_bigSet 16 = .ok (.bastore, 1) := by decide +kernel
theorem dX12_bigSet_17 : decode cX12_bigSet 17 = .ok (.iconst 0, 1) := by decide +kernel
theorem dX12_bigSet_18 : decode cX12_bigSet 18 = .ok (.istore 4, 2) := by decide +kernel
theorem dX12_bigSet_20 : decode cX12_bigSet 20 = .ok (.lload_n 2, 1) := by decide +kernel
theorem dX12_bigSet_21 : decode cX12_bigSet 21 = .ok (.lconst 0, 1) := by decide +kernel
theorem dX12_bigSet_22 : decode cX12_bigSet 22 = .ok (.lcmp, 1) := by decide +kernel
theorem dX12_bigSet_23 : decode cX12_bigSet 23 = .ok (.ifCond .ge 8, 3) := by decide +kernel
theorem dX12_bigSet_26 : decode cX12_bigSet 26 = .ok (.lload_n 2, 1) := by decide +kernel
theorem dX12_bigSet_27 : decode cX12_bigSet 27 = .ok (.lneg, 1) := by decide +kernel
theorem dX12_bigSet_28 : decode cX12_bigSet 28 = .ok (.goto 4, 3) := by decide +kernel
theorem dX12_bigSet_31 : decode cX12_bigSet 31 = .ok (.lload_n 2, 1) := by decide +kernel
theorem dX12_bigSet_32 : decode cX12_bigSet 32 = .ok (.lstore 5, 2) := by decide +kernel
theorem dX12_bigSet_34 : decode cX12_bigSet 34 = .ok (.lload 5, 2) := by decide +kernel
theorem dX12_bigSet_36 : decode cX12_bigSet 36 = .ok (.lconst 0, 1) := by decide +kernel
theorem dX12_bigSet_37 : decode cX12_bigSet 37 = .ok (.lcmp, 1) := by decide +kernel
theorem dX12_bigSet_38 : decode cX12_bigSet 38 = .ok (.ifCond .eq 35, 3) := by decide +kernel
theorem dX12_bigSet_41 : decode cX12_bigSet 41 = .ok (.aload_n 0, 1) := by decide +kernel
theorem dX12_bigSet_42 : decode cX12_bigSet 42 = .ok (.getfield 8, 3) := by decide +kernel
theorem dX12_bigSet_45 : decode cX12_bigSet 45 = .ok (.iload_n 1, 1) := by decide +kernel
theorem dX12_bigSet_46 : decode cX12_bigSet 46 = .ok (.invokestatic 12, 3) := by decide +kernel
theorem dX12_bigSet_49 : decode cX12_bigSet 49 = .ok (.iload 4, 2) := by decide +kernel
theorem dX12_bigSet_51 : decode cX12_bigSet 51 = .ok (.iadd, 1) := by decide +kernel
theorem dX12_bigSet_52 : decode cX12_bigSet 52 = .ok (.lload 5, 2) := by decide +kernel
theorem dX12_bigSet_54 : decode cX12_bigSet 54 = .ok (.ldc2_w 16, 3) := by decide +kernel
theorem dX12_bigSet_57 : decode cX12_bigSet 57 = .ok (.land, 1) := by decide +kernel
theorem dX12_bigSet_58 : decode cX12_bigSet 58 = .ok (.l2i, 1) := by decide +kernel
theorem dX12_bigSet_59 : decode cX12_bigSet 59 = .ok (.iastore, 1) := by decide +kernel
theorem dX12_bigSet_60 : decode cX12_bigSet 60 = .ok (.iinc 4 1, 3) := by decide +kernel
theorem dX12_bigSet_63 : decode cX12_bigSet 63 = .ok (.lload 5, 2) := by decide +kernel
theorem dX12_bigSet_65 : decode cX12_bigSet 65 = .ok (.bipush 24, 2) := by decide +kernel
theorem dX12_bigSet_67 : decode cX12_bigSet 67 = .ok (.lushr, 1) := by decide +kernel
theorem dX12_bigSet_68 : decode cX12_bigSet 68 = .ok (.lstore 5, 2) := by decide +kernel
theorem dX12_bigSet_70 : decode cX12_bigSet 70 = .ok (.goto (-36), 3) := by decide +kernel
theorem dX12_bigSet_73 : decode cX12_bigSet 73 = .ok (.aload_n 0, 1) := by decide +kernel
theorem dX12_bigSet_74 : decode cX12_bigSet 74 = .ok (.getfield 18, 3) := by decide +kernel
theorem dX12_bigSet_77 : decode cX12_bigSet 77 = .ok (.iload_n 1, 1) := by decide +kernel
theorem dX12_bigSet_78 : decode cX12_bigSet 78 = .ok (.iload 4, 2) := by decide +kernel
theorem dX12_bigSet_80 : decode cX12_bigSet 80 = .ok (.iastore, 1) := by decide +kernel
theorem dX12_bigSet_81 : decode cX12_bigSet 81 = .ok (.return_, 1) := by decide +kernel
set_option maxRecDepth 20000 in
theorem ggX12_bigCopy_X12_from : GoodIn wsX12_bigCopy wsX12_from := goodIn_r _ [7, 8] rfl (by decide +kernel)
set_option maxRecDepth 20000 in
theorem gX12_bigCopy_X12_from : GoodIn wsX12_bigCopy (va_wsS RX12 12 yX12_from wsX12_from) := goodIn_app (goodIn_r _ [4, 5, 6] rfl (by decide +kernel)) ggX12_bigCopy_X12_from
theorem dX12_bigCopy_0 : decode cX12_bigCopy 0 = .ok (.aload_n 0, 1) := by decide +kernel
theorem dX12_bigCopy_1 : decode cX12_bigCopy 1 = .ok (.getfield 4, 3) := by decide +kernel
theorem dX12_bigCopy_4 : decode cX12_bigCopy 4 = .ok (.iload_n 1, 1) := by decide +kernel
theorem dX12_bigCopy_5 : decode cX12_bigCopy 5 = .ok (.aload_n 0, 1) := by decide +kernel
theorem dX12_bigCopy_6 : decode cX12_bigCopy 6 = .ok (.getfield 4, 3) := by decide +kernel
theorem dX12_bigCopy_9 : decode cX12_bigCopy 9 = .ok (.iload_n 2, 1) := by decide +kernel
theorem dX12_bigCopy_10 : decode cX12_bigCopy 10 = .ok (.baload, 1) := by decide +kernel
theorem dX12_bigCopy_11 : decode cX12_bigCopy 11 = .ok (.bastore, 1) := by decide +kernel
theorem dX12_bigCopy_12 : decode cX12_bigCopy 12 = .ok (.aload_n 0, 1) := by decide +kernel
theorem dX12_bigCopy_13 : decode cX12_bigCopy 13 = .ok (.getfield 18, 3) := by decide +kernel
theorem dX12_bigCopy_16 : decode cX12_bigCopy 16 = .ok (.iload_n 1, 1) := by decide +kernel
theorem dX12_bigCopy_17 : decode cX12_bigCopy 17 = .ok (.aload_n 0, 1) := by decide +kernel
theorem dX12_bigCopy_18 : decode cX12_bigCopy 18 = .ok (.getfield 18, 3) := by decide +kernel
theorem dX12_bigCopy_21 : decode cX12_bigCopy 21 = .ok (.iload_n 2, 1) := by decide +kernel
theorem dX12_bigCopy_22 : decode cX12_bigCopy 22 = .ok (.iaload, 1) := by decide +kernel
theorem dX12_bigCopy_23 : decode cX12_bigCopy 23 = .ok (.iastore, 1) := by decide +kernel
theorem dX12_bigCopy_24 : decode cX12_bigCopy 24 = .ok (.iconst 0, 1) := by decide +kernel
theorem dX12_bigCopy_25 : decode cX12_bigCopy 25 = .ok (.istore_n 3, 1) := by decide +kernel
theorem dX12_bigCopy_26 : decode cX12_bigCopy 26 = .ok (.iload_n 3, 1) := by decide +kernel
theorem dX12_bigCopy_27 : decode cX12_bigCopy 27 = .ok (.aload_n 0, 1) := by decide +kernel
theorem dX12_bigCopy_28 : decode cX12_bigCopy 28 = .ok (.getfield 18, 3) := by decide +kernel
theorem dX12_bigCopy_31 : decode cX12_bigCopy 31 = .ok (.iload_n 2, 1) := by decide +kernel
theorem dX12_bigCopy_32 : decode cX12_bigCopy 32 = .ok (.iaload, 1) := by decide +kernel
theorem dX12_bigCopy_33 : decode cX12_bigCopy 33 = .ok (.if_icmp .ge 31, 3) := by decide +kernel
theorem dX12_bigCopy_36 : decode cX12_bigCopy 36 = .ok (.aload_n 0, 1) := by decide +kernel
theorem dX12_bigCopy_37 : decode cX12_bigCopy 37 = .ok (.getfield 8, 3) := by decide +kernel
theorem dX12_bigCopy_40 : decode cX12_bigCopy 40 = .ok (.iload_n 1, 1) := by decide +kernel
theorem dX12_bigCopy_41 : decode cX12_bigCopy 41 = .ok (.invokestatic 12, 3) := by decide +kernel
theorem dX12_bigCopy_44 : decode cX12_bigCopy 44 = .ok (.iload_n 3, 1) := by decide +kernel
theorem dX12_bigCopy_45 : decode cX12_bigCopy 45 = .ok (.iadd, 1) := by decide +kernel
theorem dX12_bigCopy_46 : decode cX12_bigCopy 46 = .ok (.aload_n 0, 1) := by decide +kernel
theorem dX12_bigCopy_47 : decode cX12_bigCopy 47 = .ok (.getfield 8, 3) := by decide +kernel
theorem dX12_bigCopy_50 : decode cX12_bigCopy 50 = .ok (.iload_n 2, 1) := by decide +kernel
theorem dX12_bigCopy_51 : decode cX12_bigCopy 51 = .ok (.invokestatic 12, 3) := by decide +kernel
theorem dX12_bigCopy_54 : decode cX12_bigCopy 54 = .ok (.iload_n 3, 1) := by decide +kernel
theorem dX12_bigCopy_55 : decode cX12_bigCopy 55 = .ok (.iadd, 1) := by decide +kernel
theorem dX12_bigCopy_56 : decode cX12_bigCopy 56 = .ok (.iaload, 1) := by decide +kernel
theorem dX12_bigCopy_57 : decode cX12_bigCopy 57 = .ok (.iastore, 1) := by decide +kernel
theorem dX12_bigCopy_58 : decode cX12_bigCopy 58 = .ok (.iinc 3 1, 3) := by decide +kernel
theorem dX12_bigCopy_61 : decode cX12_bigCopy 61 = .ok (.goto (-35), 3) := by decide +kernel
theorem dX12_bigCopy_64 : decode cX12_bigCopy 64 = .ok (.return_, 1) := by decide +kernel
theorem dX12_bigIsZero_0 : decode cX12_bigIsZero 0 = .ok (.aload_n 0, 1) := by decide +kernel
theorem dX12_bigIsZero_1 : decode cX12_bigIsZero 1 = .ok (.getfield 18, 3) := by decide +kernel
theorem dX12_bigIsZero_4 : decode cX12_bigIsZero 4 = .ok (.iload_n 1, 1) := by decide +kernel
theorem dX12_bigIsZero_5 : decode cX12_bigIsZero 5 = .ok (.iaload, 1) := by decide +kernel
theorem dX12_bigIsZero_6 : decode cX12_bigIsZero 6 = .ok (.ifCond .ne 7, 3) := by decide +kernel
theorem dX12_bigIsZero_9 : decode cX12_bigIsZero 9 = .ok (.iconst 1, 1) := by decide +kernel
theorem dX12_bigIsZero_10 : decode cX12_bigIsZero 10 = .ok (.goto 4, 3) := by decide +kernel
theorem dX12_bigIsZero_13 : decode cX12_bigIsZero 13 = .ok (.iconst 0, 1) := by decide +kernel
theorem dX12_bigIsZero_14 : decode cX12_bigIsZero 14 = .ok (.ireturn, 1) := by decide +kernel
theorem dX12_bigSign_0 : decode cX12_bigSign 0 = .ok (.aload_n 0, 1) := by decide +kernel
theorem dX12_bigSign_1 : decode cX12_bigSign 1 = .ok (.getfield 18, 3) := by decide +kernel
theorem dX12_bigSign_4 : decode cX12_bigSign 4 = .ok (.iload_n 1, 1) := by decide +kernel
theorem dX12_bigSign_5 : decode cX12_bigSign 5 = .ok (.iaload, 1) := by decide +kernel
theorem dX12_bigSign_6 : decode cX12_bigSign 6 = .ok (.ifCond .ne 7, 3) := by decide +kernel
theorem dX12_bigSign_9 : decode cX12_bigSign 9 = .ok (.iconst 0, 1) := by decide +kernel
theorem dX12_bigSign_10 : decode cX12_bigSign 10 = .ok (.goto 17, 3) := by decide +kernel
theorem dX12_bigSign_13 : decode cX12_bigSign 13 = .ok (.aload_n 0, 1) := by decide +kernel
theorem dX12_bigSign_14 : decode cX12_bigSign 14 = .ok (.getfield 4, 3) := by decide +kernel
theorem dX12_bigSign_17 : decode cX12_bigSign 17 = .ok (.iload_n 1, 1) := by decide +kernel
theorem dX12_bigSign_18 : decode cX12_bigSign 18 = .ok (.baload, 1) := by decide +kernel
theorem dX12_bigSign_19 : decode cX12_bigSign 19 = .ok (.ifCond .eq 7, 3) := by decide +kernel
theorem dX12_bigSign_22 : decode cX12_bigSign 22 = .ok (.iconst (-1), 1) := by decide +kernel
theorem dX12_bigSign_23 : decode cX12_bigSign 23 = .ok (.goto 4, 3) := by decide +kernel
theorem dX12_bigSign_26 : decode cX12_bigSign 26 = .ok (.iconst 1, 1) := by decide +kernel
theorem dX12_bigSign_27 : decode cX12_bigSign 27 = .ok (.ireturn, 1) := by decide +kernel
set_option maxRecDepth 20000 in
theorem ggX12_bigIsOne_X12_from : GoodIn wsX12_bigIsOne wsX12_from := goodIn_r _ [6, 7] rfl (by decide +kernel)
set_option maxRecDepth 20000 in
theorem gX12_bigIsOne_X12_from : GoodIn wsX12_bigIsOne (va_wsS RX12 12 yX12_from wsX12_from) := goodIn_app (goodIn_r _ [3, 4, 5] rfl (by decide +kernel)) ggX12_bigIsOne_X12_from
theorem dX12_bigIsOne_0 : decode cX12_bigIsOne 0 = .ok (.aload_n 0, 1) := by decide +kernel
theorem dX12_bigIsOne_1 : decode cX12_bigIsOne 1 = .ok (.getfield 18, 3) := by decide +kernel
theorem dX12_bigIsOne_4 : decode cX12_bigIsOne 4 = .ok (.iload_n 1, 1) := by decide +kernel
theorem dX12_bigIsOne_5 : decode cX12_bigIsOne 5 = .ok (.iaload, 1) := by decide +kernel
theorem dX12_bigIsOne_6 : decode cX12_bigIsOne 6 = .ok (.iconst 1, 1) := by decide +kernel
theorem dX12_bigIsOne_7 : decode cX12_bigIsOne 7 = .ok (.if_icmp .ne 20, 3) := by decide +kernel
theorem dX12_bigIsOne_10 : decode cX12_bigIsOne 10 = .ok (.aload_n 0, 1) := by decide +kernel
theorem dX12_bigIsOne_11 : decode cX12_bigIsOne 11 = .ok (.getfield 8, 3) := by decide +kernel
theorem dX12_bigIsOne_14 : decode cX12_bigIsOne 14 = .ok (.iload_n 1, 1) := by decide +kernel
theorem dX12_bigIsOne_15 : decode cX12_bigIsOne 15 = .ok (.invokestatic 12, 3) := by decide +kernel
theorem dX12_bigIsOne_18 : decode cX12_bigIsOne 18 = .ok (.iaload, 1) := by decide +kernel
theorem dX12_bigIsOne_19 : decode cX12_bigIsOne 19 = .ok (.iconst 1, 1) := by decide +kernel
theorem dX12_bigIsOne_20 : decode cX12_bigIsOne 20 = .ok (.if_icmp .ne 7, 3) := by decide +kernel
theorem dX12_bigIsOne_23 : decode cX12_bigIsOne 23 = .ok (.iconst 1, 1) := by decide +kernel
theorem dX12_bigIsOne_24 : decode cX12_bigIsOne 24 = .ok (.goto 4, 3) := by decide +kernel
theorem dX12_bigIsOne_27 : decode cX12_bigIsOne 27 = .ok (.iconst 0, 1) := by decide +kernel
theorem dX12_bigIsOne_28 : decode cX12_bigIsOne 28 = .ok (.ireturn, 1) := by decide +kernel
set_option maxRecDepth 20000 in
theorem ggX12_bigAt_X12_from : GoodIn wsX12_bigAt wsX12_from := goodIn_r _ [6, 7] rfl (by decide +kernel)
set_option maxRecDepth 20000 in
theorem gX12_bigAt_X12_from : GoodIn wsX12_bigAt (va_wsS RX12 12 yX12_from wsX12_from) := goodIn_app (goodIn_r _ [3, 4, 5] rfl (by decide +kernel)) ggX12_bigAt_X12_from
theorem dX12_bigAt_0 : decode cX12_bigAt 0 = .ok (.iload_n 2, 1) := by decide +kernel
theorem dX12_bigAt_1 : decode cX12_bigAt 1 = .ok (.aload_n 0, 1) := by decide +kernel
theorem dX12_bigAt_2 : decode cX12_bigAt 2 = .ok (.getfield 18, 3) := by decide +kernel
theorem dX12_bigAt_5 : decode cX12_bigAt 5 = .ok (.iload_n 1, 1) := by decide +kernel
theorem dX12_bigAt_6 : decode cX12_bigAt 6 = .ok (.iaload, 1) := by decide +kernel
theorem dX12_bigAt_7 : decode cX12_bigAt 7 = .ok (.if_icmp .ge 17, 3) := by decide +kernel
theorem dX12_bigAt_10 : decode cX12_bigAt 10 = .ok (.aload_n 0, 1) := by decide +kernel
theorem dX12_bigAt_11 : decode cX12_bigAt 11 = .ok (.getfield 8, 3) := by decide +kernel
theorem dX12_bigAt_14 : decode cX12_bigAt 14 = .ok (.iload_n 1, 1) := by decide +kernel
theorem dX12_bigAt_15 : decode cX12_bigAt 15 = .ok (.invokestatic 12, 3) := by decide +kernel
theorem dX12_bigAt_18 : decode cX12_bigAt 18 = .ok (.iload_n 2, 1) := by decide +kernel
theorem dX12_bigAt_19 : decode cX12_bigAt 19 = .ok (.iadd, 1) := by decide +kernel
theorem dX12_bigAt_20 : decode cX12_bigAt 20 = .ok (.iaload, 1) := by decide +kernel
theorem dX12_bigAt_21 : decode cX12_bigAt 21 = .ok (.goto 4, 3) := by decide +kernel
theorem dX12_bigAt_24 : decode cX12_bigAt 24 = .ok (.iconst 0, 1) := by decide +kernel
theorem dX12_bigAt_25 : decode cX12_bigAt 25 = .ok (.ireturn, 1) := by decide +kernel
set_option maxRecDepth 20000 in
theorem ggX12_bigTrim_X12_from : GoodIn wsX12_bigTrim wsX12_from := goodIn_r _ [6, 7] rfl (by decide +kernel)
set_option maxRecDepth 20000 in
theorem gX12_bigTrim_X12_from : GoodIn wsX12_bigTrim (va_wsS RX12 12 yX12_from wsX12_from) := goodIn_app (goodIn_r _ [3, 4, 5] rfl (by decide +kernel)) ggX12_bigTrim_X12_from
theorem dX12_bigTrim_0 : decode cX12_bigTrim 0 = .ok (.aload_n 0, 1) := by decide +kernel
theorem dX12_bigTrim_1 : decode cX12_bigTrim 1 = .ok (.getfield 18, 3) := by decide +kernel
theorem dX12_bigTrim_4 : decode cX12_bigTrim 4 = .ok (.iload_n 1, 1) := by decide +kernel
theorem dX12_bigTrim_5 : decode cX12_bigTrim 5 = .ok (.iaload, 1) := by decide +kernel
theorem dX12_bigTrim_6 : decode cX12_bigTrim 6 = .ok (.ifCond .le 37, 3) := by decide +kernel
theorem dX12_bigTrim_9 : decode cX12_bigTrim 9 = .ok (.aload_n 0, 1) := by decide +kernel
theorem dX12_bigTrim_10 : decode cX12_bigTrim 10 = .ok (.getfield 8, 3) := by decide +kernel
theorem dX12_bigTrim_13 : decode cX12_bigTrim 13 = .ok (.iload_n 1, 1) := by decide +kernel
theorem dX12_bigTrim_14 : decode cX12_bigTrim 14 = .ok (.invokestatic 12, 3) := by decide +kernel
theorem dX12_bigTrim_17 : decode cX12_bigTrim 17 = .ok (.aload_n 0, 1) := by decide +kernel
theorem dX12_bigTrim_18 : decode cX12_bigTrim 18 = .ok (.getfield 18, 3) := by decide +kernel
theorem dX12_bigTrim_21 : decode cX12_bigTrim 21 = .ok (.iload_n 1, 1) := by decide +kernel
theorem dX12_bigTrim_22 : decode cX12_bigTrim 22 = .ok (.iaload, 1) := by decide +kernel
theorem dX12_bigTrim_23 : decode cX12_bigTrim 23 = .ok (.iadd, 1) := by decide +kernel
theorem dX12_bigTrim_24 : decode cX12_bigTrim 24 = .ok (.iconst 1, 1) := by decide +kernel
theorem dX12_bigTrim_25 : decode cX12_bigTrim 25 = .ok (.isub, 1) := by decide +kernel
theorem dX12_bigTrim_26 : decode cX12_bigTrim 26 = .ok (.iaload, 1) := by decide +kernel
theorem dX12_bigTrim_27 : decode cX12_bigTrim 27 = .ok (.ifCond .ne 16, 3) := by decide +kernel
theorem dX12_bigTrim_30 : decode cX12_bigTrim 30 = .ok (.aload_n 0, 1) := by decide +kernel
theorem dX12_bigTrim_31 : decode cX12_bigTrim 31 = .ok (.getfield 18, 3) := by decide +kernel
theorem dX12_bigTrim_34 : decode cX12_bigTrim 34 = .ok (.iload_n 1, 1) := by decide +kernel
theorem dX12_bigTrim_35 : decode cX12_bigTrim 35 = .ok (.dup2, 1) := by decide +kernel
theorem dX12_bigTrim_36 : decode cX12_bigTrim 36 = .ok (.iaload, 1) := by decide +kernel
theorem dX12_bigTrim_37 : decode cX12_bigTrim 37 = .ok (.iconst 1, 1) := by decide +kernel
theorem dX12_bigTrim_38 : decode cX12_bigTrim 38 = .ok (.isub, 1) := by decide +kernel
theorem dX12_bigTrim_39 : decode cX12_bigTrim 39 = .ok (.iastore, 1) := by decide +kernel
theorem dX12_bigTrim_40 : decode cX12_bigTrim 40 = .ok (.goto (-40), 3) := by decide +kernel
theorem dX12_bigTrim_43 : decode cX12_bigTrim 43 = .ok (.return_, 1) := by decide +kernel
set_option maxRecDepth 20000 in
theorem ggX12_bigSizes_X12_bigAt : GoodIn wsX12_bigSizes wsX12_bigAt := goodIn_s _ [(6, 1), (1, 1), (7, 3), (5, 1), (10, 60)] rfl (by decide +kernel)
set_option maxRecDepth 20000 in
theorem gX12_bigSizes_X12_bigAt : GoodIn wsX12_bigSizes (wsV RX12 21 RX12 yX12_bigAt wsX12_bigAt) := goodIn_app (goodIn_r _ [2, 3, 4, 5] rfl (by decide +kernel)) ggX12_bigSizes_X12_bigAt
theorem dX12_bigSizes_0 : decode cX12_bigSizes 0 = .ok (.aload_n 0, 1) := by decide +kernel
theorem dX12_bigSizes_1 : decode cX12_bigSizes 1 = .ok (.getfield 18, 3) := by decide +kernel
theorem dX12_bigSizes_4 : decode cX12_bigSizes 4 = .ok (.iload_n 1, 1) := by decide +kernel
theorem dX12_bigSizes_5 : decode cX12_bigSizes 5 = .ok (.iaload, 1) := by decide +kernel
theorem dX12_bigSizes_6 : decode cX12_bigSizes 6 = .ok (.aload_n 0, 1) := by decide +kernel
theorem dX12_bigSizes_7 : decode cX12_bigSizes 7 = .ok (.getfield 18, 3) := by decide +kernel
theorem dX12_bigSizes_10 : decode cX12_bigSizes 10 = .ok (.iload_n 2, 1) := by decide +kernel
theorem dX12_bigSizes_11 : decode cX12_bigSizes 11 = .ok (.iaload, 1) := by decide +kernel
theorem dX12_bigSizes_12 : decode cX12_bigSizes 12 = .ok (.if_icmp .eq 24, 3) := by decide +kernel
theorem dX12_bigSizes_15 : decode cX12_bigSizes 15 = .ok (.aload_n 0, 1) := by decide +kernel
theorem dX12_bigSizes_16 : decode cX12_bigSizes 16 = .ok (.getfield 18, 3) := by decide +kernel
theorem dX12_bigSizes_19 : decode cX12_bigSizes 19 = .ok (.iload_n 1, 1) := by decide +kernel
theorem dX12_bigSizes_20 : decode cX12_bigSizes 20 = .ok (.iaload, 1) := by decide +kernel
theorem dX12_bigSizes_21 : decode cX12_bigSizes 21 = .ok (.aload_n 0, 1) := by decide +kernel
theorem dX12_bigSizes_22 : decode cX12_bigSizes 22 = .ok (.getfield 18, 3) := by decide +kernel
theorem dX12_bigSizes_25 : decode cX12_bigSizes 25 = .ok (.iload_n 2, 1) := by decide +kernel
theorem dX12_bigSizes_26 : decode cX12_bigSizes 26 = .ok (.iaload, 1) := by decide +kernel
theorem dX12_bigSizes_27 : decode cX12_bigSizes 27 = .ok (.if_icmp .ge 7, 3) := by decide +kernel
theorem dX12_bigSizes_30 : decode cX12_bigSizes 30 = .ok (.iconst (-1), 1) := by decide +kernel
theorem dX12_bigSizes_31 : decode cX12_bigSizes 31 = .ok (.goto 4, 3) := by decide +kernel
theorem dX12_bigSizes_34 : decode cX12_bigSizes 34 = .ok (.iconst 1, 1) := by decide +kernel
theorem dX12_bigSizes_35 : decode cX12_bigSizes 35 = .ok (.ireturn, 1) := by decide +kernel
theorem dX12_bigSizes_36 : decode cX12_bigSizes 36 = .ok (.aload_n 0, 1) := by decide +kernel
theorem dX12_bigSizes_37 : decode cX12_bigSizes 37 = .ok (.getfield 18, 3) := by decide +kernel
theorem dX12_bigSizes_40 : decode cX12_bigSizes 40 = .ok (.iload_n 1, 1) := by decide +kernel
theorem dX12_bigSizes_41 : decode cX12_bigSizes 41 = .ok (.iaload, 1) := by decide +kernel
theorem dX12_bigSizes_42 : decode cX12_bigSizes 42 = .ok (.iconst 1, 1) := by decide +kernel
theorem dX12_bigSizes_43 : decode cX12_bigSizes 43 = .ok (.isub, 1) := by decide +kernel
theorem dX12_bigSizes_44 : decode cX12_bigSizes 44 = .ok (.istore_n 3, 1) := by decide +kernel
theorem dX12_bigSizes_45 : decode cX12_bigSizes 45 = .ok (.iload_n 3, 1) := by decide +kernel
theorem dX12_bigSizes_46 : decode cX12_bigSizes 46 = .ok (.ifCond .lt 24, 3) := by decide +kernel
theorem dX12_bigSizes_49 : decode cX12_bigSizes 49 = .ok (.aload_n 0, 1) := by decide +kernel
theorem dX12_bigSizes_50 : decode cX12_bigSizes 50 = .ok (.iload_n 1, 1) := by decide +kernel
theorem dX12_bigSizes_51 : decode cX12_bigSizes 51 = .ok (.iload_n 3, 1) := by decide +kernel
theorem dX12_bigSizes_52 : decode cX12_bigSizes 52 = .ok (.invokevirtual 21, 3) := by decide +kernel
theorem dX12_bigSizes_55 : decode cX12_bigSizes 55 = .ok (.aload_n 0, 1) := by decide +kernel
theorem dX12_bigSizes_56 : decode cX12_bigSizes 56 = .ok (.iload_n 2, 1) := by decide +kernel
theorem dX12_bigSizes_57 : decode cX12_bigSizes 57 = .ok (.iload_n 3, 1) := by decide +kernel
theorem dX12_bigSizes_58 : decode cX12_bigSizes 58 = .ok (.invokevirtual 21, 3) := by decide +kernel
theorem dX12_bigSizes_61 : decode cX12_bigSizes 61 = .ok (.if_icmp .ne 9, 3) := by decide +kernel
theorem dX12_bigSizes_64 : decode cX12_bigSizes 64 = .ok (.iinc 3 (-1), 3) := by decide +kernel
theorem dX12_bigSizes_67 : decode cX12_bigSizes 67 = .ok (.goto (-22), 3) := by decide +kernel
theorem dX12_bigSizes_70 : decode cX12_bigSizes 70 = .ok (.iload_n 3, 1) := by decide +kernel
theorem dX12_bigSizes_71 : decode cX12_bigSizes 71 = .ok (.ifCond .ge 7, 3) := by decide +kernel
theorem dX12_bigSizes_74 : decode cX12_bigSizes 74 = .ok (.iconst 0, 1) := by decide +kernel
theorem dX12_bigSizes_75 : decode cX12_bigSizes 75 = .ok (.goto 23, 3) := by decide +kernel
theorem dX12_bigSizes_78 : decode cX12_bigSizes 78 = .ok (.aload_n 0, 1) := by decide +kernel
theorem dX12_bigSizes_79 : decode cX12_bigSizes 79 = .ok (.iload_n 1, 1) := by decide +kernel
theorem dX12_bigSizes_80 : decode cX12_bigSizes 80 = .ok (.iload_n 3, 1) := by decide +kernel
theorem dX12_bigSizes_81 : decode cX12_bigSizes 81 = .ok (.invokevirtual 21, 3) := by decide +kernel
theorem dX12_bigSizes_84 : decode cX12_bigSizes 84 = .ok (.aload_n 0, 1) := by decide +kernel
theorem dX12_bigSizes_85 : decode cX12_bigSizes 85 = .ok (.iload_n 2, 1) := by decide +kernel
theorem dX12_bigSizes_86 : decode cX12_bigSizes 86 = .ok (.iload_n 3, 1) := by decide +kernel
theorem dX12_bigSizes_87 : decode cX12_bigSizes 87 = .ok (.invokevirtual 21, 3) := by decide +kernel
theorem dX12_bigSizes_90 : decode cX12_bigSizes 90 = .ok (.if_icmp .ge 7, 3) := by decide +kernel
theorem dX12_bigSizes_93 : decode cX12_bigSizes 93 = .ok (.iconst (-1), 1) := by decide +kernel
theorem dX12_bigSizes_94 : decode cX12_bigSizes 94 = .ok (.goto 4, 3) := by decide +kernel
theorem dX12_bigSizes_97 : decode cX12_bigSizes 97 = .ok (.iconst 1, 1) := by decide +kernel
theorem dX12_bigSizes_98 : decode cX12_bigSizes 98 = .ok (.ireturn, 1) := by decide +kernel
set_option maxRecDepth 20000 in
theorem ggX12_bigCompare_X12_bigSign : GoodIn wsX12_bigCompare wsX12_bigSign := goodIn_s _ [(5, 3), (21, 58)] rfl (by decide +kernel)
set_option maxRecDepth 20000 in
theorem gX12_bigCompare_X12_bigSign : GoodIn wsX12_bigCompare (wsV RX12 25 RX12 yX12_bigSign wsX12_bigSign) := goodIn_app (goodIn_r _ [1, 2, 3, 4] rfl (by decide +kernel)) ggX12_bigCompare_X12_bigSign
set_option maxRecDepth 20000 in
theorem ggX12_bigCompare_X12_bigSizes : GoodIn wsX12_bigCompare wsX12_bigSizes := goodIn_s _ [(11, 1), (6, 1), (12, 3), (4, 1), (15, 64)] rfl (by decide +kernel)
set_option maxRecDepth 20000 in
theorem gX12_bigCompare_X12_bigSizes : GoodIn wsX12_bigCompare (wsV RX12 28 RX12 yX12_bigSizes wsX12_bigSizes) := goodIn_app (goodIn_r _ [8, 9, 10, 4] rfl (by decide +kernel)) ggX12_bigCompare_X12_bigSizes
theorem dX12_bigCompare_0 : decode cX12_bigCompare 0 = .ok (.aload_n 0, 1) := by decide +kernel
theorem dX12_bigCompare_1 : decode cX12_bigCompare 1 = .ok (.iload_n 1, 1) := by decide +kernel
theorem dX12_bigCompare_2 : decode cX12_bigCompare 2 = .ok (.invokevirtual 25, 3) := by decide +kernel
theorem dX12_bigCompare_5 : decode cX12_bigCompare 5 = .ok (.istore_n 3, 1) := by decide +kernel
theorem dX12_bigCompare_6 : decode cX12_bigCompare 6 = .ok (.aload_n 0, 1) := by decide +kernel
theorem dX12_bigCompare_7 : decode cX12_bigCompare 7 = .ok (.iload_n 2, 1) := by decide +kernel
theorem dX12_bigCompare_8 : decode cX12_bigCompare 8 = .ok (.invokevirtual 25, 3) := by decide +kernel
theorem dX12_bigCompare_11 : decode cX12_bigCompare 11 = .ok (.istore 4, 2) := by decide +kernel
theorem dX12_bigCompare_13 : decode cX12_bigCompare 13 = .ok (.iload_n 3, 1) := by decide +kernel
theorem dX12_bigCompare_14 : decode cX12_bigCompare 14 = .ok (.iload 4, 2) := by decide +kernel
theorem dX12_bigCompare_16 : decode cX12_bigCompare 16 = .ok (.if_icmp .eq 17, 3) := by decide +kernel
theorem dX12_bigCompare_19 : decode cX12_bigCompare 19 = .ok (.iload_n 3, 1) := by decide +kernel
theorem dX12_bigCompare_20 : decode cX12_bigCompare 20 = .ok (.iload 4, 2) := by decide +kernel
theorem dX12_bigCompare_22 : decode cX12_bigCompare 22 = .ok (.if_icmp .ge 7, 3) := by decide +kernel
theorem dX12_bigCompare_25 : decode cX12_bigCompare 25 = .ok (.iconst (-1), 1) := by decide +kernel
theorem dX12_bigCompare_26 : decode cX12_bigCompare 26 = .ok (.goto 15, 3) := by decide +kernel
theorem dX12_bigCompare_29 : decode cX12_bigCompare 29 = .ok (.iconst 1, 1) := by decide +kernel
theorem dX12_bigCompare_30 : decode cX12_bigCompare 30 = .ok (.goto 11, 3) := by decide +kernel
theorem dX12_bigCompare_33 : decode cX12_bigCompare 33 = .ok (.iload_n 3, 1) := by decide +kernel
theorem dX12_bigCompare_34 : decode cX12_bigCompare 34 = .ok (.aload_n 0, 1) := by decide +kernel
theorem dX12_bigCompare_35 : decode cX12_bigCompare 35 = .ok (.iload_n 1, 1) := by decide +kernel
theorem dX12_bigCompare_36 : decode cX12_bigCompare 36 = .ok (.iload_n 2, 1) := by decide +kernel
theorem dX12_bigCompare_37 : decode cX12_bigCompare 37 = .ok (.invokevirtual 28, 3) := by decide +kernel
theorem dX12_bigCompare_40 : decode cX12_bigCompare 40 = .ok (.imul, 1) := by decide +kernel
theorem dX12_bigCompare_41 : decode cX12_bigCompare 41 = .ok (.ireturn, 1) := by decide +kernel
set_option maxRecDepth 20000 in
theorem ggX12_bigMore_X12_bigAt : GoodIn wsX12_bigMore wsX12_bigAt := goodIn_s _ [(8, 1), (1, 2), (9, 2), (7, 1), (11, 60)] rfl (by decide +kernel)
set_option maxRecDepth 20000 in
theorem gX12_bigMore_X12_bigAt : GoodIn wsX12_bigMore (wsV RX12 21 RX12 yX12_bigAt wsX12_bigAt) := goodIn_app (goodIn_r _ [4, 5, 6, 7] rfl (by decide +kernel)) ggX12_bigMore_X12_bigAt
set_option maxRecDepth 20000 in
theorem ggX12_bigMore_X12_from : GoodIn wsX12_bigMore wsX12_from := goodIn_r _ [11, 12] rfl (by decide +kernel)
set_option maxRecDepth 20000 in
theorem gX12_bigMore_X12_from : GoodIn wsX12_bigMore (va_wsS RX12 12 yX12_from wsX12_from) := goodIn_app (goodIn_r _ [9, 10, 7] rfl (by decide +kernel)) ggX12_bigMore_X12_from
theorem dX12_bigMore_0 : decode cX12_bigMore 0 = .ok (.aload_n 0, 1) := by decide +kernel
theorem dX12_bigMore_1 : decode cX12_bigMore 1 = .ok (.getfield 18, 3) := by decide +kernel
theorem dX12_bigMore_4 : decode cX12_bigMore 4 = .ok (.iload_n 1, 1) := by decide +kernel
theorem dX12_bigMore_5 : decode cX12_bigMore 5 = .ok (.iaload, 1) := by decide +kernel
theorem dX12_bigMore_6 : decode cX12_bigMore 6 = .ok (.aload_n 0, 1) := by decide +kernel
theorem dX12_bigMore_7 : decode cX12_bigMore 7 = .ok (.getfield 18, 3) := by decide +kernel
theorem dX12_bigMore_10 : decode cX12_bigMore 10 = .ok (.iload_n 2, 1) := by decide +kernel
theorem dX12_bigMore_11 : decode cX12_bigMore 11 = .ok (.iaload, 1) := by decide +kernel
theorem dX12_bigMore_12 : decode cX12_bigMore 12 = .ok (.if_icmp .le 12, 3) := by decide +kernel
theorem dX12_bigMore_15 : decode cX12_bigMore 15 = .ok (.aload_n 0, 1) := by decide +kernel
theorem dX12_bigMore_16 : decode cX12_bigMore 16 = .ok (.getfield 18, 3) := by decide +kernel
theorem dX12_bigMore_19 : decode cX12_bigMore 19 = .ok (.iload_n 1, 1) := by decide +kernel
theorem dX12_bigMore_20 : decode cX12_bigMore 20 = .ok (.iaload, 1) := by decide +kernel
theorem dX12_bigMore_21 : decode cX12_bigMore 21 = .ok (.goto 9, 3) := by decide +kernel
theorem dX12_bigMore_24 : decode cX12_bigMore 24 = .ok (.aload_n 0, 1) := by decide +kernel
theorem dX12_bigMore_25 : decode cX12_bigMore 25 = .ok (.getfield 18, 3) := by decide +kernel
theorem dX12_bigMore_28 : decode cX12_bigMore 28 = .ok (.iload_n 2, 1) := by decide +kernel
theorem dX12_bigMore_29 : decode cX12_bigMore 29 = .ok (.iaload, 1) := by decide +kernel
theorem dX12_bigMore_30 : decode cX12_bigMore 30 = .ok (.istore_n 3, 1) := by decide +kernel
theorem dX12_bigMore_31 : decode cX12_bigMore 31 = .ok (.iconst 0, 1) := by decide +kernel
theorem dX12_bigMore_32 : decode cX12_bigMore 32 = .ok (.istore 4, 2) := by decide +kernel
theorem dX12_bigMore_34 : decode cX12_bigMore 34 = .ok (.iconst 0, 1) := by decide +kernel
theorem dX12_bigMore_35 : decode cX12_bigMore 35 = .ok (.istore 5, 2) := by decide +kernel
theorem dX12_bigMore_37 : decode cX12_bigMore 37 = .ok (.iload 5, 2) := by decide +kernel
theorem dX12_bigMore_39 : decode cX12_bigMore 39 = .ok (.iload_n 3, 1) := by decide +kernel
theorem dX12_bigMore_40 : decode cX12_bigMore 40 = .ok (.if_icmp .ge 53, 3) := by decide +kernel
theorem dX12_bigMore_43 : decode cX12_bigMore 43 = .ok (.aload_n 0, 1) := by decide +kernel
theorem dX12_bigMore_44 : decode cX12_bigMore 44 = .ok (.iload_n 1, 1) := by decide +kernel
theorem dX12_bigMore_45 : decode cX12_bigMore 45 = .ok (.iload 5, 2) := by decide +kernel
theorem dX12_bigMore_47 : decode cX12_bigMore 47 = .ok (.invokevirtual 21, 3) := by decide +kernel
theorem dX12_bigMore_50 : decode cX12_bigMore 50 = .ok (.aload_n 0, 1) := by decide +kernel
theorem dX12_bigMore_51 : decode cX12_bigMore 51 = .ok (.iload_n 2, 1) := by decide +kernel
theorem dX12_bigMore_52 : decode cX12_bigMore 52 = .ok (.iload 5, 2) := by decide +kernel
theorem dX12_bigMore_54 : decode cX12_bigMore 54 = .ok (.invokevirtual 21, 3) := by decide +kernel
theorem dX12_bigMore_57 : decode cX12_bigMore 57 = .ok (.iadd, 1) := by decide +kernel
theorem dX12_bigMore_58 : decode cX12_bigMore 58 = .ok (.iload 4, 2) := by decide +kernel
theorem dX12_bigMore_60 : decode cX12_bigMore 60 = .ok (.iadd, 1) := by decide +kernel
theorem dX12_bigMore_61 : decode cX12_bigMore 61 = .ok (.istore 6, 2) := by decide +kernel
theorem dX12_bigMore_63 : decode cX12_bigMore 63 = .ok (.aload_n 0, 1) := by decide +kernel
theorem dX12_bigMore_64 : decode cX12_bigMore 64 = .ok (.getfield 8, 3) := by decide +kernel
theorem dX12_bigMore_67 : decode cX12_bigMore 67 = .ok (.iload_n 1, 1) := by decide +kernel
theorem dX12_bigMore_68 : decode cX12_bigMore 68 = .ok (.invokestatic 12, 3) := by decide +kernel
theorem dX12_bigMore_71 : decode cX12_bigMore 71 = .ok (.iload 5, 2) := by decide +kernel
theorem dX12_bigMore_73 : decode cX12_bigMore 73 = .ok (.iadd, 1) := by decide +kernel
theorem dX12_bigMore_74 : decode cX12_bigMore 74 = .ok (.iload 6, 2) := by decide +kernel
theorem dX12_bigMore_76 : decode cX12_bigMore 76 = .ok (.ldc 31, 2) := by decide +kernel
theorem dX12_bigMore_78 : decode cX12_bigMore 78 = .ok (.irem, 1) := by decide +kernel
theorem dX12_bigMore_79 : decode cX12_bigMore 79 = .ok (.iastore, 1) := by decide +kernel
theorem dX12_bigMore_80 : decode cX12_bigMore 80 = .ok (.iload 6, 2) := by decide +kernel
theorem dX12_bigMore_82 : decode cX12_bigMore 82 = .ok (.ldc 31, 2) := by decide +kernel
theorem dX12_bigMore_84 : decode cX12_bigMore 84 = .ok (.idiv, 1) := by decide +kernel
theorem dX12_bigMore_85 : decode cX12_bigMore 85 = .ok (.istore 4, 2) := by decide +kernel
theorem dX12_bigMore_87 : decode cX12_bigMore 87 = .ok (.iinc 5 1, 3) := by decide +kernel
theorem dX12_bigMore_90 : decode cX12_bigMore 90 = .ok (.goto (-53), 3) := by decide +kernel
theorem dX12_bigMore_93 : decode cX12_bigMore 93 = .ok (.aload_n 0, 1) := by decide +kernel
theorem dX12_bigMore_94 : decode cX12_bigMore 94 = .ok (.getfield 18, 3) := by decide +kernel
theorem dX12_bigMore_97 : decode cX12_bigMore 97 = .ok (.iload_n 1, 1) := by decide +kernel
theorem dX12_bigMore_98 : decode cX12_bigMore 98 = .ok (.iload_n 3, 1) := by decide +kernel
theorem dX12_bigMore_99 : decode cX12_bigMore 99 = .ok (.iastore, 1) := by decide +kernel
theorem dX12_bigMore_100 : decode cX12_bigMore 100 = .ok (.iload 4, 2) := by decide +kernel
theorem dX12_bigMore_102 : decode cX12_bigMore 102 = .ok (.ifCond .le 25, 3) := by decide +kernel
theorem dX12_bigMore_105 : decode cX12_bigMore 105 = .ok (.aload_n 0, 1) := by decide +kernel
theorem dX12_bigMore_106 : decode cX12_bigMore 106 = .ok (.getfield 8, 3) := by decide +kernel
theorem dX12_bigMore_109 : decode cX12_bigMore 109 = .ok (.iload_n 1, 1) := by decide +kernel
theorem dX12_bigMore_110 : decode cX12_bigMore 110 = .ok (.invokestatic 12, 3) := by decide +kernel
theorem dX12_bigMore_113 : decode cX12_bigMore 113 = .ok (.iload_n 3, 1) := by decide +kernel
theorem dX12_bigMore_114 : decode cX12_bigMore 114 = .ok (.iadd, 1) := by decide +kernel
theorem dX12_bigMore_115 : decode cX12_bigMore 115 = .ok (.iload 4, 2) := by decide +kernel
theorem dX12_bigMore_117 : decode cX12_bigMore 117 = .ok (.iastore, 1) := by decide +kernel
theorem dX12_bigMore_118 : decode cX12_bigMore 118 = .ok (.aload_n 0, 1) := by decide +kernel
theorem dX12_bigMore_119 : decode cX12_bigMore 119 = .ok (.getfield 18, 3) := by decide +kernel
theorem dX12_bigMore_122 : decode cX12_bigMore 122 = .ok (.iload_n 1, 1) := by decide +kernel
theorem dX12_bigMore_123 : decode cX12_bigMore 123 = .ok (.iload_n 3, 1) := by decide +kernel
theorem dX12_bigMore_124 : decode cX12_bigMore 124 = .ok (.iconst 1, 1) := by decide +kernel
theorem dX12_bigMore_125 : decode cX12_bigMore 125 = .ok (.iadd, 1) := by decide +kernel
theorem dX12_bigMore_126 : decode cX12_bigMore 126 = .ok (.iastore, 1) := by decide +kernel
theorem dX12_bigMore_127 : decode cX12_bigMore 127 = .ok (.return_, 1) := by decide +kernel
set_option maxRecDepth 20000 in
theorem ggX12_bigDiffer_X12_bigAt : GoodIn wsX12_bigDiffer wsX12_bigAt := goodIn_s _ [(8, 1), (1, 2), (9, 2), (7, 1), (11, 2), (17, 58)] rfl (by decide +kernel)
set_option maxRecDepth 20000 in
theorem gX12_bigDiffer_X12_bigAt : GoodIn wsX12_bigDiffer (wsV RX12 21 RX12 yX12_bigAt wsX12_bigAt) := goodIn_app (goodIn_r _ [4, 5, 6, 7] rfl (by decide +kernel)) ggX12_bigDiffer_X12_bigAt
set_option maxRecDepth 20000 in
theorem ggX12_bigDiffer_X12_from : GoodIn wsX12_bigDiffer wsX12_from := goodIn_r _ [11, 12] rfl (by decide +kernel)
set_option maxRecDepth 20000 in
theorem gX12_bigDiffer_X12_from : GoodIn wsX12_bigDiffer (va_wsS RX12 12 yX12_from wsX12_from) := goodIn_app (goodIn_r _ [9, 10, 7] rfl (by decide +kernel)) ggX12_bigDiffer_X12_from
set_option maxRecDepth 20000 in
theorem ggX12_bigDiffer_X12_bigTrim : GoodIn wsX12_bigDiffer wsX12_bigTrim := goodIn_s _ [(16, 1), (1, 2), (9, 2), (7, 1), (11, 2), (17, 58)] rfl (by decide +kernel)
set_option maxRecDepth 20000 in
theorem gX12_bigDiffer_X12_bigTrim : GoodIn wsX12_bigDiffer (wsV RX12 32 RX12 yX12_bigTrim wsX12_bigTrim) := goodIn_app (goodIn_r _ [13, 14, 15, 7] rfl (by decide +kernel)) ggX12_bigDiffer_X12_bigTrim
theorem dX12_bigDiffer_0 : decode cX12_bigDiffer 0 = .ok (.aload_n 0, 1) := by decide +kernel
theorem dX12_bigDiffer_1 : decode cX12_bigDiffer 1 = .ok (.getfield 18, 3) := by decide +kernel
theorem dX12_bigDiffer_4 : decode cX12_bigDiffer 4 = .ok (.iload_n 1, 1) := by decide +kernel
theorem dX12_bigDiffer_5 : decode cX12_bigDiffer 5 = .ok (.iaload, 1) := by decide +kernel
theorem dX12_bigDiffer_6 : decode cX12_bigDiffer 6 = .ok (.aload_n 0, 1) := by decide +kernel
theorem dX12_bigDiffer_7 : decode cX12_bigDiffer 7 = .ok (.getfield 18, 3) := by decide +kernel
theorem dX12_bigDiffer_10 : decode cX12_bigDiffer 10 = .ok (.iload_n 2, 1) := by decide +kernel
theorem dX12_bigDiffer_11 : decode cX12_bigDiffer 11 = .ok (.iaload, 1) := by decide +kernel
theorem dX12_bigDiffer_12 : decode cX12_bigDiffer 12 = .ok (.if_icmp .le 12, 3) := by decide +kernel
theorem dX12_bigDiffer_15 : decode cX12_bigDiffer 15 = .ok (.aload_n 0, 1) := by decide +kernel
theorem dX12_bigDiffer_16 : decode cX12_bigDiffer 16 = .ok (.getfield 18, 3) := by decide +kernel
theorem dX12_bigDiffer_19 : decode cX12_bigDiffer 19 = .ok (.iload_n 1, 1) := by decide +kernel
theorem dX12_bigDiffer_20 : decode cX12_bigDiffer 20 = .ok (.iaload, 1) := by decide +kernel
theorem dX12_bigDiffer_21 : decode cX12_bigDiffer 21 = .ok (.goto 9, 3) := by decide +kernel
theorem dX12_bigDiffer_24 : decode cX12_bigDiffer 24 = .ok (.aload_n 0, 1) := by decide +kernel
theorem dX12_bigDiffer_25 : decode cX12_bigDiffer 25 = .ok (.getfield 18, 3) := by decide +kernel
theorem dX12_bigDiffer_28 : decode cX12_bigDiffer 28 = .ok (.iload_n 2, 1) := by decide +kernel
theorem dX12_bigDiffer_29 : decode cX12_bigDiffer 29 = .ok (.iaload, 1) := by decide +kernel
theorem dX12_bigDiffer_30 : decode cX12_bigDiffer 30 = .ok (.istore 4, 2) := by decide +kernel
theorem dX12_bigDiffer_32 : decode cX12_bigDiffer 32 = .ok (.iconst 0, 1) := by decide +kernel
theorem dX12_bigDiffer_33 : decode cX12_bigDiffer 33 = .ok (.istore 5, 2) := by decide +kernel
theorem dX12_bigDiffer_35 : decode cX12_bigDiffer 35 = .ok (.iconst 0, 1) := by decide +kernel
theorem dX12_bigDiffer_36 : decode cX12_bigDiffer 36 = .ok (.istore 6, 2) := by decide +kernel
theorem dX12_bigDiffer_38 : decode cX12_bigDiffer 38 = .ok (.iload 6, 2) := by decide +kernel
theorem dX12_bigDiffer_40 : decode cX12_bigDiffer 40 = .ok (.iload 4, 2) := by decide +kernel
theorem dX12_bigDiffer_42 : decode cX12_bigDiffer 42 = .ok (.if_icmp .ge 90, 3) := by decide +kernel
theorem dX12_bigDiffer_45 : decode cX12_bigDiffer 45 = .ok (.iload_n 3, 1) := by decide +kernel
theorem dX12_bigDiffer_46 : decode cX12_bigDiffer 46 = .ok (.ifCond .eq 21, 3) := by decide +kernel
theorem dX12_bigDiffer_49 : decode cX12_bigDiffer 49 = .ok (.aload_n 0, 1) := by decide +kernel
theorem dX12_bigDiffer_50 : decode cX12_bigDiffer 50 = .ok (.iload_n 2, 1) := by decide +kernel
theorem dX12_bigDiffer_51 : decode cX12_bigDiffer 51 = .ok (.iload 6, 2) := by decide +kernel
theorem dX12_bigDiffer_53 : decode cX12_bigDiffer 53 = .ok (.invokevirtual 21, 3) := by decide +kernel
theorem dX12_bigDiffer_56 : decode cX12_bigDiffer 56 = .ok (.aload_n 0, 1) := by decide +kernel
theorem dX12_bigDiffer_57 : decode cX12_bigDiffer 57 = .ok (.iload_n 1, 1) := by decide +kernel
theorem dX12_bigDiffer_58 : decode cX12_bigDiffer 58 = .ok (.iload 6, 2) := by decide +kernel
theorem dX12_bigDiffer_60 : decode cX12_bigDiffer 60 = .ok (.invokevirtual 21, 3) := by decide +kernel
theorem dX12_bigDiffer_63 : decode cX12_bigDiffer 63 = .ok (.isub, 1) := by decide +kernel
theorem dX12_bigDiffer_64 : decode cX12_bigDiffer 64 = .ok (.goto 18, 3) := by decide +kernel
theorem dX12_bigDiffer_67 : decode cX12_bigDiffer 67 = .ok (.aload_n 0, 1) := by decide +kernel
theorem dX12_bigDiffer_68 : decode cX12_bigDiffer 68 = .ok (.iload_n 1, 1) := by decide +kernel
theorem dX12_bigDiffer_69 : decode cX12_bigDiffer 69 = .ok (.iload 6, 2) := by decide +kernel
theorem dX12_bigDiffer_71 : decode cX12_bigDiffer 71 = .ok (.invokevirtual 21, 3) := by decide +kernel
theorem dX12_bigDiffer_74 : decode cX12_bigDiffer 74 = .ok (.aload_n 0, 1) := by decide +kernel
theorem dX12_bigDiffer_75 : decode cX12_bigDiffer 75 = .ok (.iload_n 2, 1) := by decide +kernel
theorem dX12_bigDiffer_76 : decode cX12_bigDiffer 76 = .ok (.iload 6, 2) := by decide +kernel
theorem dX12_bigDiffer_78 : decode cX12_bigDiffer 78 = .ok (.invokevirtual 21, 3) := by decide +kernel
theorem dX12_bigDiffer_81 : decode cX12_bigDiffer 81 = .ok (.isub, 1) := by decide +kernel
theorem dX12_bigDiffer_82 : decode cX12_bigDiffer 82 = .ok (.iload 5, 2) := by decide +kernel
theorem dX12_bigDiffer_84 : decode cX12_bigDiffer 84 = .ok (.isub, 1) := by decide +kernel
theorem dX12_bigDiffer_85 : decode cX12_bigDiffer 85 = .ok (.istore 7, 2) := by decide +kernel
theorem dX12_bigDiffer_87 : decode cX12_bigDiffer 87 = .ok (.iload 7, 2) := by decide +kernel
theorem dX12_bigDiffer_89 : decode cX12_bigDiffer 89 = .ok (.ifCond .ge 7, 3) := by decide +kernel
theorem dX12_bigDiffer_92 : decode cX12_bigDiffer 92 = .ok (.iconst 1, 1) := by decide +kernel
theorem dX12_bigDiffer_93 : decode cX12_bigDiffer 93 = .ok (.goto 4, 3) := by decide +kernel
theorem dX12_bigDiffer_96 : decode cX12_bigDiffer 96 = .ok (.iconst 0, 1) := by decide +kernel
theorem dX12_bigDiffer_97 : decode cX12_bigDiffer 97 = .ok (.istore 5, 2) := by decide +kernel
theorem dX12_bigDiffer_99 : decode cX12_bigDiffer 99 = .ok (.aload_n 0, 1) := by decide +kernel
theorem dX12_bigDiffer_100 : decode cX12_bigDiffer 100 = .ok (.getfield 8, 3) := by decide +kernel
theorem dX12_bigDiffer_103 : decode cX12_bigDiffer 103 = .ok (.iload_n 1, 1) := by decide +kernel
theorem dX12_bigDiffer_104 : decode cX12_bigDiffer 104 = .ok (.invokestatic 12, 3) := by decide +kernel
theorem dX12_bigDiffer_107 : decode cX12_bigDiffer 107 = .ok (.iload 6, 2) := by decide +kernel
theorem dX12_bigDiffer_109 : decode cX12_bigDiffer 109 = .ok (.iadd, 1) := by decide +kernel
theorem dX12_bigDiffer_110 : decode cX12_bigDiffer 110 = .ok (.iload 7, 2) := by decide +kernel
theorem dX12_bigDiffer_112 : decode cX12_bigDiffer 112 = .ok (.ifCond .ge 11, 3) := by decide +kernel
theorem dX12_bigDiffer_115 : decode cX12_bigDiffer 115 = .ok (.iload 7, 2) := by decide +kernel
theorem dX12_bigDiffer_117 : decode cX12_bigDiffer 117 = .ok (.ldc 31, 2) := by decide +kernel
theorem dX12_bigDiffer_119 : decode cX12_bigDiffer 119 = .ok (.iadd, 1) := by decide +kernel
theorem dX12_bigDiffer_120 : decode cX12_bigDiffer 120 = .ok (.goto 5, 3) := by decide +kernel
theorem dX12_bigDiffer_123 : decode cX12_bigDiffer 123 = .ok (.iload 7, 2) := by decide +kernel
theorem dX12_bigDiffer_125 : decode cX12_bigDiffer 125 = .ok (.iastore, 1) := by decide +kernel
theorem dX12_bigDiffer_126 : decode cX12_bigDiffer 126 = .ok (.iinc 6 1, 3) := by decide +kernel
theorem dX12_bigDiffer_129 : decode cX12_bigDiffer 129 = .ok (.goto (-91), 3) := by decide +kernel
theorem dX12_bigDiffer_132 : decode cX12_bigDiffer 132 = .ok (.aload_n 0, 1) := by decide +kernel
theorem dX12_bigDiffer_133 : decode cX12_bigDiffer 133 = .ok (.getfield 18, 3) := by decide +kernel
theorem dX12_bigDiffer_136 : decode cX12_bigDiffer 136 = .ok (.iload_n 1, 1) := by decide +kernel
theorem dX12_bigDiffer_137 : decode cX12_bigDiffer 137 = .ok (.iload 4, 2) := by decide +kernel
theorem dX12_bigDiffer_139 : decode cX12_bigDiffer 139 = .ok (.iastore, 1) := by decide +kernel
theorem dX12_bigDiffer_140 : decode cX12_bigDiffer 140 = .ok (.aload_n 0, 1) := by decide +kernel
theorem dX12_bigDiffer_141 : decode cX12_bigDiffer 141 = .ok (.iload_n 1, 1) := by decide +kernel
theorem dX12_bigDiffer_142 : decode cX12_bigDiffer 142 = .ok (.invokevirtual 32, 3) := by decide +kernel
theorem dX12_bigDiffer_145 : decode cX12_bigDiffer 145 = .ok (.return_, 1) := by decide +kernel
set_option maxRecDepth 20000 in
theorem ggX12_bigAdd_X12_bigMore : GoodIn wsX12_bigAdd wsX12_bigMore := goodIn_s _ [(6, 7), (5, 1), (13, 5), (30, 58)] rfl (by decide +kernel)
set_option maxRecDepth 20000 in
theorem gX12_bigAdd_X12_bigMore : GoodIn wsX12_bigAdd (wsV RX12 36 RX12 yX12_bigMore wsX12_bigMore) := goodIn_app (goodIn_r _ [2, 3, 4, 5] rfl (by decide +kernel)) ggX12_bigAdd_X12_bigMore
set_option maxRecDepth 20000 in
theorem ggX12_bigAdd_X12_bigSizes : GoodIn wsX12_bigAdd wsX12_bigSizes := goodIn_s _ [(21, 1), (7, 1), (10, 3), (5, 1), (13, 1), (8, 1), (14, 4), (30, 58)] rfl (by decide +kernel)
