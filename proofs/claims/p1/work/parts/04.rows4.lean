theorem dX12_init_271 : decode cX12_init 271 = .ok (.aload_n 0, 1) := by decide +kernel
theorem dX12_init_272 : decode cX12_init 272 = .ok (.bipush 24, 2) := by decide +kernel
theorem dX12_init_274 : decode cX12_init 274 = .ok (.newarray .long, 2) := by decide +kernel
theorem dX12_init_276 : decode cX12_init 276 = .ok (.putfield 187, 3) := by decide +kernel
theorem dX12_init_279 : decode cX12_init 279 = .ok (.aload_n 0, 1) := by decide +kernel
theorem dX12_init_280 : decode cX12_init 280 = .ok (.bipush 24, 2) := by decide +kernel
theorem dX12_init_282 : decode cX12_init 282 = .ok (.newarray .long, 2) := by decide +kernel
theorem dX12_init_284 : decode cX12_init 284 = .ok (.putfield 190, 3) := by decide +kernel
theorem dX12_init_287 : decode cX12_init 287 = .ok (.aload_n 0, 1) := by decide +kernel
theorem dX12_init_288 : decode cX12_init 288 = .ok (.sipush 216, 3) := by decide +kernel
theorem dX12_init_291 : decode cX12_init 291 = .ok (.newarray .long, 2) := by decide +kernel
theorem dX12_init_293 : decode cX12_init 293 = .ok (.putfield 193, 3) := by decide +kernel
theorem dX12_init_296 : decode cX12_init 296 = .ok (.aload_n 0, 1) := by decide +kernel
theorem dX12_init_297 : decode cX12_init 297 = .ok (.sipush 216, 3) := by decide +kernel
theorem dX12_init_300 : decode cX12_init 300 = .ok (.newarray .long, 2) := by decide +kernel
theorem dX12_init_302 : decode cX12_init 302 = .ok (.putfield 196, 3) := by decide +kernel
theorem dX12_init_305 : decode cX12_init 305 = .ok (.aload_n 0, 1) := by decide +kernel
theorem dX12_init_306 : decode cX12_init 306 = .ok (.bipush 80, 2) := by decide +kernel
theorem dX12_init_308 : decode cX12_init 308 = .ok (.newarray .int, 2) := by decide +kernel
theorem dX12_init_310 : decode cX12_init 310 = .ok (.putfield 199, 3) := by decide +kernel
theorem dX12_init_313 : decode cX12_init 313 = .ok (.aload_n 0, 1) := by decide +kernel
theorem dX12_init_314 : decode cX12_init 314 = .ok (.bipush 80, 2) := by decide +kernel
theorem dX12_init_316 : decode cX12_init 316 = .ok (.newarray .int, 2) := by decide +kernel
theorem dX12_init_318 : decode cX12_init 318 = .ok (.putfield 202, 3) := by decide +kernel
theorem dX12_init_321 : decode cX12_init 321 = .ok (.aload_n 0, 1) := by decide +kernel
theorem dX12_init_322 : decode cX12_init 322 = .ok (.iconst 4, 1) := by decide +kernel
theorem dX12_init_323 : decode cX12_init 323 = .ok (.newarray .boolean, 2) := by decide +kernel
theorem dX12_init_325 : decode cX12_init 325 = .ok (.putfield 205, 3) := by decide +kernel
theorem dX12_init_328 : decode cX12_init 328 = .ok (.aload_n 0, 1) := by decide +kernel
theorem dX12_init_329 : decode cX12_init 329 = .ok (.bipush 20, 2) := by decide +kernel
theorem dX12_init_331 : decode cX12_init 331 = .ok (.newarray .int, 2) := by decide +kernel
theorem dX12_init_333 : decode cX12_init 333 = .ok (.putfield 208, 3) := by decide +kernel
theorem dX12_init_336 : decode cX12_init 336 = .ok (.aload_n 0, 1) := by decide +kernel
theorem dX12_init_337 : decode cX12_init 337 = .ok (.bipush 20, 2) := by decide +kernel
theorem dX12_init_339 : decode cX12_init 339 = .ok (.newarray .int, 2) := by decide +kernel
theorem dX12_init_341 : decode cX12_init 341 = .ok (.putfield 211, 3) := by decide +kernel
theorem dX12_init_344 : decode cX12_init 344 = .ok (.aload_n 0, 1) := by decide +kernel
theorem dX12_init_345 : decode cX12_init 345 = .ok (.bipush 65, 2) := by decide +kernel
theorem dX12_init_347 : decode cX12_init 347 = .ok (.newarray .int, 2) := by decide +kernel
theorem dX12_init_349 : decode cX12_init 349 = .ok (.putfield 214, 3) := by decide +kernel
theorem dX12_init_352 : decode cX12_init 352 = .ok (.aload_n 0, 1) := by decide +kernel
theorem dX12_init_353 : decode cX12_init 353 = .ok (.bipush 65, 2) := by decide +kernel
theorem dX12_init_355 : decode cX12_init 355 = .ok (.newarray .int, 2) := by decide +kernel
theorem dX12_init_357 : decode cX12_init 357 = .ok (.putfield 217, 3) := by decide +kernel
theorem dX12_init_360 : decode cX12_init 360 = .ok (.aload_n 0, 1) := by decide +kernel
theorem dX12_init_361 : decode cX12_init 361 = .ok (.sipush 2000, 3) := by decide +kernel
theorem dX12_init_364 : decode cX12_init 364 = .ok (.newarray .int, 2) := by decide +kernel
theorem dX12_init_366 : decode cX12_init 366 = .ok (.putfield 220, 3) := by decide +kernel
theorem dX12_init_369 : decode cX12_init 369 = .ok (.return_, 1) := by decide +kernel
theorem dX12_thrown_0 : decode cX12_thrown 0 = .ok (.aload_n 0, 1) := by decide +kernel
theorem dX12_thrown_1 : decode cX12_thrown 1 = .ok (.getfield 223, 3) := by decide +kernel
theorem dX12_thrown_4 : decode cX12_thrown 4 = .ok (.ireturn, 1) := by decide +kernel
theorem dX12_type_0 : decode cX12_type 0 = .ok (.aload_n 0, 1) := by decide +kernel
theorem dX12_type_1 : decode cX12_type 1 = .ok (.iconst 0, 1) := by decide +kernel
theorem dX12_type_2 : decode cX12_type 2 = .ok (.putfield 223, 3) := by decide +kernel
theorem dX12_type_5 : decode cX12_type 5 = .ok (.iload_n 3, 1) := by decide +kernel
theorem dX12_type_6 : decode cX12_type 6 = .ok (.iconst 1, 1) := by decide +kernel
theorem dX12_type_7 : decode cX12_type 7 = .ok (.if_icmp .lt 25, 3) := by decide +kernel
theorem dX12_type_10 : decode cX12_type 10 = .ok (.iload_n 3, 1) := by decide +kernel
theorem dX12_type_11 : decode cX12_type 11 = .ok (.bipush 8, 2) := by decide +kernel
theorem dX12_type_13 : decode cX12_type 13 = .ok (.if_icmp .gt 19, 3) := by decide +kernel
theorem dX12_type_16 : decode cX12_type 16 = .ok (.aload_n 0, 1) := by decide +kernel
theorem dX12_type_17 : decode cX12_type 17 = .ok (.getfield 226, 3) := by decide +kernel
theorem dX12_type_20 : decode cX12_type 20 = .ok (.iload_n 3, 1) := by decide +kernel
theorem dX12_type_21 : decode cX12_type 21 = .ok (.iadd, 1) := by decide +kernel
theorem dX12_type_22 : decode cX12_type 22 = .ok (.sipush 4000, 3) := by decide +kernel
theorem dX12_type_25 : decode cX12_type 25 = .ok (.if_icmp .gt 7, 3) := by decide +kernel
theorem dX12_type_28 : decode cX12_type 28 = .ok (.iconst 1, 1) := by decide +kernel
theorem dX12_type_29 : decode cX12_type 29 = .ok (.goto 4, 3) := by decide +kernel
theorem dX12_type_32 : decode cX12_type 32 = .ok (.iconst 0, 1) := by decide +kernel
theorem dX12_type_33 : decode cX12_type 33 = .ok (.istore 4, 2) := by decide +kernel
theorem dX12_type_35 : decode cX12_type 35 = .ok (.iconst 0, 1) := by decide +kernel
theorem dX12_type_36 : decode cX12_type 36 = .ok (.istore 5, 2) := by decide +kernel
theorem dX12_type_38 : decode cX12_type 38 = .ok (.iload 4, 2) := by decide +kernel
theorem dX12_type_40 : decode cX12_type 40 = .ok (.ifCond .eq 53, 3) := by decide +kernel
theorem dX12_type_43 : decode cX12_type 43 = .ok (.iload 5, 2) := by decide +kernel
theorem dX12_type_45 : decode cX12_type 45 = .ok (.iload_n 3, 1) := by decide +kernel
theorem dX12_type_46 : decode cX12_type 46 = .ok (.if_icmp .ge 47, 3) := by decide +kernel
theorem dX12_type_49 : decode cX12_type 49 = .ok (.lload_n 1, 1) := by decide +kernel
theorem dX12_type_50 : decode cX12_type 50 = .ok (.bipush 8, 2) := by decide +kernel
theorem dX12_type_52 : decode cX12_type 52 = .ok (.iload 5, 2) := by decide +kernel
theorem dX12_type_54 : decode cX12_type 54 = .ok (.imul, 1) := by decide +kernel
theorem dX12_type_55 : decode cX12_type 55 = .ok (.lshr, 1) := by decide +kernel
theorem dX12_type_56 : decode cX12_type 56 = .ok (.ldc2_w 229, 3) := by decide +kernel
theorem dX12_type_59 : decode cX12_type 59 = .ok (.land, 1) := by decide +kernel
theorem dX12_type_60 : decode cX12_type 60 = .ok (.lstore 6, 2) := by decide +kernel
theorem dX12_type_62 : decode cX12_type 62 = .ok (.lload 6, 2) := by decide +kernel
theorem dX12_type_64 : decode cX12_type 64 = .ok (.ldc2_w 231, 3) := by decide +kernel
theorem dX12_type_67 : decode cX12_type 67 = .ok (.lcmp, 1) := by decide +kernel
theorem dX12_type_68 : decode cX12_type 68 = .ok (.ifCond .lt 16, 3) := by decide +kernel
theorem dX12_type_71 : decode cX12_type 71 = .ok (.lload 6, 2) := by decide +kernel
theorem dX12_type_73 : decode cX12_type 73 = .ok (.ldc2_w 233, 3) := by decide +kernel
theorem dX12_type_76 : decode cX12_type 76 = .ok (.lcmp, 1) := by decide +kernel
theorem dX12_type_77 : decode cX12_type 77 = .ok (.ifCond .gt 7, 3) := by decide +kernel
theorem dX12_type_80 : decode cX12_type 80 = .ok (.iconst 1, 1) := by decide +kernel
theorem dX12_type_81 : decode cX12_type 81 = .ok (.goto 4, 3) := by decide +kernel
theorem dX12_type_84 : decode cX12_type 84 = .ok (.iconst 0, 1) := by decide +kernel
theorem dX12_type_85 : decode cX12_type 85 = .ok (.istore 4, 2) := by decide +kernel
theorem dX12_type_87 : decode cX12_type 87 = .ok (.iinc 5 1, 3) := by decide +kernel
theorem dX12_type_90 : decode cX12_type 90 = .ok (.goto (-52), 3) := by decide +kernel
theorem dX12_type_93 : decode cX12_type 93 = .ok (.iload 4, 2) := by decide +kernel
theorem dX12_type_95 : decode cX12_type 95 = .ok (.ifCond .ne 5, 3) := by decide +kernel
theorem dX12_type_98 : decode cX12_type 98 = .ok (.iconst (-1), 1) := by decide +kernel
theorem dX12_type_99 : decode cX12_type 99 = .ok (.ireturn, 1) := by decide +kernel
theorem dX12_type_100 : decode cX12_type 100 = .ok (.iload_n 3, 1) := by decide +kernel
theorem dX12_type_101 : decode cX12_type 101 = .ok (.iconst 1, 1) := by decide +kernel
theorem dX12_type_102 : decode cX12_type 102 = .ok (.isub, 1) := by decide +kernel
theorem dX12_type_103 : decode cX12_type 103 = .ok (.istore 5, 2) := by decide +kernel
theorem dX12_type_105 : decode cX12_type 105 = .ok (.iload 5, 2) := by decide +kernel
theorem dX12_type_107 : decode cX12_type 107 = .ok (.ifCond .lt 41, 3) := by decide +kernel
theorem dX12_type_110 : decode cX12_type 110 = .ok (.aload_n 0, 1) := by decide +kernel
theorem dX12_type_111 : decode cX12_type 111 = .ok (.getfield 94, 3) := by decide +kernel
theorem dX12_type_114 : decode cX12_type 114 = .ok (.aload_n 0, 1) := by decide +kernel
theorem dX12_type_115 : decode cX12_type 115 = .ok (.getfield 226, 3) := by decide +kernel
theorem dX12_type_118 : decode cX12_type 118 = .ok (.lload_n 1, 1) := by decide +kernel
theorem dX12_type_119 : decode cX12_type 119 = .ok (.bipush 8, 2) := by decide +kernel
theorem dX12_type_121 : decode cX12_type 121 = .ok (.iload 5, 2) := by decide +kernel
theorem dX12_type_123 : decode cX12_type 123 = .ok (.imul, 1) := by decide +kernel
theorem dX12_type_124 : decode cX12_type 124 = .ok (.lshr, 1) := by decide +kernel
theorem dX12_type_125 : decode cX12_type 125 = .ok (.ldc2_w 229, 3) := by decide +kernel
theorem dX12_type_128 : decode cX12_type 128 = .ok (.land, 1) := by decide +kernel
theorem dX12_type_129 : decode cX12_type 129 = .ok (.l2i, 1) := by decide +kernel
theorem dX12_type_130 : decode cX12_type 130 = .ok (.i2b, 1) := by decide +kernel
theorem dX12_type_131 : decode cX12_type 131 = .ok (.bastore, 1) := by decide +kernel
theorem dX12_type_132 : decode cX12_type 132 = .ok (.aload_n 0, 1) := by decide +kernel
theorem dX12_type_133 : decode cX12_type 133 = .ok (.dup, 1) := by decide +kernel
theorem dX12_type_134 : decode cX12_type 134 = .ok (.getfield 226, 3) := by decide +kernel
theorem dX12_type_137 : decode cX12_type 137 = .ok (.iconst 1, 1) := by decide +kernel
theorem dX12_type_138 : decode cX12_type 138 = .ok (.iadd, 1) := by decide +kernel
theorem dX12_type_139 : decode cX12_type 139 = .ok (.putfield 226, 3) := by decide +kernel
theorem dX12_type_142 : decode cX12_type 142 = .ok (.iinc 5 (-1), 3) := by decide +kernel
theorem dX12_type_145 : decode cX12_type 145 = .ok (.goto (-40), 3) := by decide +kernel
theorem dX12_type_148 : decode cX12_type 148 = .ok (.aload_n 0, 1) := by decide +kernel
theorem dX12_type_149 : decode cX12_type 149 = .ok (.getfield 226, 3) := by decide +kernel
theorem dX12_type_152 : decode cX12_type 152 = .ok (.ireturn, 1) := by decide +kernel
theorem dX12_isDigit_0 : decode cX12_isDigit 0 = .ok (.iload_n 0, 1) := by decide +kernel
theorem dX12_isDigit_1 : decode cX12_isDigit 1 = .ok (.bipush 48, 2) := by decide +kernel
theorem dX12_isDigit_3 : decode cX12_isDigit 3 = .ok (.if_icmp .lt 13, 3) := by decide +kernel
theorem dX12_isDigit_6 : decode cX12_isDigit 6 = .ok (.iload_n 0, 1) := by decide +kernel
theorem dX12_isDigit_7 : decode cX12_isDigit 7 = .ok (.bipush 57, 2) := by decide +kernel
theorem dX12_isDigit_9 : decode cX12_isDigit 9 = .ok (.if_icmp .gt 7, 3) := by decide +kernel
theorem dX12_isDigit_12 : decode cX12_isDigit 12 = .ok (.iconst 1, 1) := by decide +kernel
theorem dX12_isDigit_13 : decode cX12_isDigit 13 = .ok (.goto 4, 3) := by decide +kernel
theorem dX12_isDigit_16 : decode cX12_isDigit 16 = .ok (.iconst 0, 1) := by decide +kernel
theorem dX12_isDigit_17 : decode cX12_isDigit 17 = .ok (.ireturn, 1) := by decide +kernel
theorem dX12_isSign_0 : decode cX12_isSign 0 = .ok (.iload_n 0, 1) := by decide +kernel
theorem dX12_isSign_1 : decode cX12_isSign 1 = .ok (.bipush 65, 2) := by decide +kernel
theorem dX12_isSign_3 : decode cX12_isSign 3 = .ok (.if_icmp .eq 63, 3) := by decide +kernel
theorem dX12_isSign_6 : decode cX12_isSign 6 = .ok (.iload_n 0, 1) := by decide +kernel
theorem dX12_isSign_7 : decode cX12_isSign 7 = .ok (.bipush 66, 2) := by decide +kernel
theorem dX12_isSign_9 : decode cX12_isSign 9 = .ok (.if_icmp .eq 57, 3) := by decide +kernel
theorem dX12_isSign_12 : decode cX12_isSign 12 = .ok (.iload_n 0, 1) := by decide +kernel
theorem dX12_isSign_13 : decode cX12_isSign 13 = .ok (.bipush 63, 2) := by decide +kernel
theorem dX12_isSign_15 : decode cX12_isSign 15 = .ok (.if_icmp .eq 51, 3) := by decide +kernel
theorem dX12_isSign_18 : decode cX12_isSign 18 = .ok (.iload_n 0, 1) := by decide +kernel
theorem dX12_isSign_19 : decode cX12_isSign 19 = .ok (.bipush 40, 2) := by decide +kernel
theorem dX12_isSign_21 : decode cX12_isSign 21 = .ok (.if_icmp .eq 45, 3) := by decide +kernel
theorem dX12_isSign_24 : decode cX12_isSign 24 = .ok (.iload_n 0, 1) := by decide +kernel
theorem dX12_isSign_25 : decode cX12_isSign 25 = .ok (.bipush 41, 2) := by decide +kernel
theorem dX12_isSign_27 : decode cX12_isSign 27 = .ok (.if_icmp .eq 39, 3) := by decide +kernel
theorem dX12_isSign_30 : decode cX12_isSign 30 = .ok (.iload_n 0, 1) := by decide +kernel
theorem dX12_isSign_31 : decode cX12_isSign 31 = .ok (.bipush 91, 2) := by decide +kernel
theorem dX12_isSign_33 : decode cX12_isSign 33 = .ok (.if_icmp .eq 33, 3) := by decide +kernel
theorem dX12_isSign_36 : decode cX12_isSign 36 = .ok (.iload_n 0, 1) := by decide +kernel
theorem dX12_isSign_37 : decode cX12_isSign 37 = .ok (.bipush 93, 2) := by decide +kernel
theorem dX12_isSign_39 : decode cX12_isSign 39 = .ok (.if_icmp .eq 27, 3) := by decide +kernel
theorem dX12_isSign_42 : decode cX12_isSign 42 = .ok (.iload_n 0, 1) := by decide +kernel
theorem dX12_isSign_43 : decode cX12_isSign 43 = .ok (.bipush 58, 2) := by decide +kernel
theorem dX12_isSign_45 : decode cX12_isSign 45 = .ok (.if_icmp .eq 21, 3) := by decide +kernel
theorem dX12_isSign_48 : decode cX12_isSign 48 = .ok (.iload_n 0, 1) := by decide +kernel
theorem dX12_isSign_49 : decode cX12_isSign 49 = .ok (.bipush 44, 2) := by decide +kernel
theorem dX12_isSign_51 : decode cX12_isSign 51 = .ok (.if_icmp .eq 15, 3) := by decide +kernel
theorem dX12_isSign_54 : decode cX12_isSign 54 = .ok (.iload_n 0, 1) := by decide +kernel
theorem dX12_isSign_55 : decode cX12_isSign 55 = .ok (.bipush 45, 2) := by decide +kernel
theorem dX12_isSign_57 : decode cX12_isSign 57 = .ok (.if_icmp .eq 9, 3) := by decide +kernel
theorem dX12_isSign_60 : decode cX12_isSign 60 = .ok (.iload_n 0, 1) := by decide +kernel
theorem dX12_isSign_61 : decode cX12_isSign 61 = .ok (.bipush 47, 2) := by decide +kernel
theorem dX12_isSign_63 : decode cX12_isSign 63 = .ok (.if_icmp .ne 7, 3) := by decide +kernel
theorem dX12_isSign_66 : decode cX12_isSign 66 = .ok (.iconst 1, 1) := by decide +kernel
theorem dX12_isSign_67 : decode cX12_isSign 67 = .ok (.goto 4, 3) := by decide +kernel
theorem dX12_isSign_70 : decode cX12_isSign 70 = .ok (.iconst 0, 1) := by decide +kernel
theorem dX12_isSign_71 : decode cX12_isSign 71 = .ok (.ireturn, 1) := by decide +kernel
set_option maxRecDepth 20000 in
theorem ggX12_cut_X12_isSign : GoodIn wsX12_cut wsX12_isSign := goodIn_r _ [10] (by decide +kernel) (by decide +kernel)
set_option maxRecDepth 20000 in
theorem gX12_cut_X12_isSign : GoodIn wsX12_cut (va_wsS RX12 238 yX12_isSign wsX12_isSign) := goodIn_app (goodIn_of _ (by decide +kernel)) ggX12_cut_X12_isSign
set_option maxRecDepth 20000 in
theorem ggX12_cut_X12_isDigit : GoodIn wsX12_cut wsX12_isDigit := goodIn_r _ [13] (by decide +kernel) (by decide +kernel)
set_option maxRecDepth 20000 in
theorem gX12_cut_X12_isDigit : GoodIn wsX12_cut (va_wsS RX12 241 yX12_isDigit wsX12_isDigit) := goodIn_app (goodIn_of _ (by decide +kernel)) ggX12_cut_X12_isDigit
theorem dX12_cut_0 : decode cX12_cut 0 = .ok (.aload_n 0, 1) := by decide +kernel
theorem dX12_cut_1 : decode cX12_cut 1 = .ok (.iconst 0, 1) := by decide +kernel
theorem dX12_cut_2 : decode cX12_cut 2 = .ok (.putfield 235, 3) := by decide +kernel
theorem dX12_cut_5 : decode cX12_cut 5 = .ok (.iconst 1, 1) := by decide +kernel
theorem dX12_cut_6 : decode cX12_cut 6 = .ok (.istore_n 1, 1) := by decide +kernel
theorem dX12_cut_7 : decode cX12_cut 7 = .ok (.iconst 0, 1) := by decide +kernel
theorem dX12_cut_8 : decode cX12_cut 8 = .ok (.istore_n 2, 1) := by decide +kernel
theorem dX12_cut_9 : decode cX12_cut 9 = .ok (.iload_n 1, 1) := by decide +kernel
theorem dX12_cut_10 : decode cX12_cut 10 = .ok (.ifCond .eq 233, 3) := by decide +kernel
theorem dX12_cut_13 : decode cX12_cut 13 = .ok (.iload_n 2, 1) := by decide +kernel
theorem dX12_cut_14 : decode cX12_cut 14 = .ok (.aload_n 0, 1) := by decide +kernel
theorem dX12_cut_15 : decode cX12_cut 15 = .ok (.getfield 226, 3) := by decide +kernel
theorem dX12_cut_18 : decode cX12_cut 18 = .ok (.if_icmp .gt 225, 3) := by decide +kernel
theorem dX12_cut_21 : decode cX12_cut 21 = .ok (.iload_n 2, 1) := by decide +kernel
theorem dX12_cut_22 : decode cX12_cut 22 = .ok (.aload_n 0, 1) := by decide +kernel
theorem dX12_cut_23 : decode cX12_cut 23 = .ok (.getfield 226, 3) := by decide +kernel
theorem dX12_cut_26 : decode cX12_cut 26 = .ok (.if_icmp .ge 12, 3) := by decide +kernel
theorem dX12_cut_29 : decode cX12_cut 29 = .ok (.aload_n 0, 1) := by decide +kernel
theorem dX12_cut_30 : decode cX12_cut 30 = .ok (.getfield 94, 3) := by decide +kernel
theorem dX12_cut_33 : decode cX12_cut 33 = .ok (.iload_n 2, 1) := by decide +kernel
theorem dX12_cut_34 : decode cX12_cut 34 = .ok (.baload, 1) := by decide +kernel
theorem dX12_cut_35 : decode cX12_cut 35 = .ok (.goto 4, 3) := by decide +kernel
theorem dX12_cut_38 : decode cX12_cut 38 = .ok (.iconst 0, 1) := by decide +kernel
theorem dX12_cut_39 : decode cX12_cut 39 = .ok (.istore_n 3, 1) := by decide +kernel
theorem dX12_cut_40 : decode cX12_cut 40 = .ok (.iload_n 2, 1) := by decide +kernel
theorem dX12_cut_41 : decode cX12_cut 41 = .ok (.iconst 1, 1) := by decide +kernel
theorem dX12_cut_42 : decode cX12_cut 42 = .ok (.iadd, 1) := by decide +kernel
theorem dX12_cut_43 : decode cX12_cut 43 = .ok (.istore 4, 2) := by decide +kernel
theorem dX12_cut_45 : decode cX12_cut 45 = .ok (.iload_n 3, 1) := by decide +kernel
theorem dX12_cut_46 : decode cX12_cut 46 = .ok (.bipush 32, 2) := by decide +kernel
theorem dX12_cut_48 : decode cX12_cut 48 = .ok (.if_icmp .eq 189, 3) := by decide +kernel
theorem dX12_cut_51 : decode cX12_cut 51 = .ok (.aload_n 0, 1) := by decide +kernel
theorem dX12_cut_52 : decode cX12_cut 52 = .ok (.getfield 102, 3) := by decide +kernel
theorem dX12_cut_55 : decode cX12_cut 55 = .ok (.aload_n 0, 1) := by decide +kernel
theorem dX12_cut_56 : decode cX12_cut 56 = .ok (.getfield 235, 3) := by decide +kernel
theorem dX12_cut_59 : decode cX12_cut 59 = .ok (.iload_n 2, 1) := by decide +kernel
theorem dX12_cut_60 : decode cX12_cut 60 = .ok (.aload_n 0, 1) := by decide +kernel
theorem dX12_cut_61 : decode cX12_cut 61 = .ok (.getfield 226, 3) := by decide +kernel
theorem dX12_cut_64 : decode cX12_cut 64 = .ok (.if_icmp .ne 7, 3) := by decide +kernel
theorem dX12_cut_67 : decode cX12_cut 67 = .ok (.iconst 0, 1) := by decide +kernel
theorem dX12_cut_68 : decode cX12_cut 68 = .ok (.goto 15, 3) := by decide +kernel
theorem dX12_cut_71 : decode cX12_cut 71 = .ok (.iload_n 3, 1) := by decide +kernel
theorem dX12_cut_72 : decode cX12_cut 72 = .ok (.invokestatic 238, 3) := by decide +kernel
theorem dX12_cut_75 : decode cX12_cut 75 = .ok (.ifCond .eq 7, 3) := by decide +kernel
theorem dX12_cut_78 : decode cX12_cut 78 = .ok (.iload_n 3, 1) := by decide +kernel
theorem dX12_cut_79 : decode cX12_cut 79 = .ok (.goto 4, 3) := by decide +kernel
theorem dX12_cut_82 : decode cX12_cut 82 = .ok (.iconst 2, 1) := by decide +kernel
theorem dX12_cut_83 : decode cX12_cut 83 = .ok (.iastore, 1) := by decide +kernel
theorem dX12_cut_84 : decode cX12_cut 84 = .ok (.aload_n 0, 1) := by decide +kernel
theorem dX12_cut_85 : decode cX12_cut 85 = .ok (.getfield 105, 3) := by decide +kernel
theorem dX12_cut_88 : decode cX12_cut 88 = .ok (.aload_n 0, 1) := by decide +kernel
theorem dX12_cut_89 : decode cX12_cut 89 = .ok (.getfield 235, 3) := by decide +kernel
theorem dX12_cut_92 : decode cX12_cut 92 = .ok (.iload_n 2, 1) := by decide +kernel
theorem dX12_cut_93 : decode cX12_cut 93 = .ok (.iastore, 1) := by decide +kernel
theorem dX12_cut_94 : decode cX12_cut 94 = .ok (.aload_n 0, 1) := by decide +kernel
theorem dX12_cut_95 : decode cX12_cut 95 = .ok (.getfield 108, 3) := by decide +kernel
theorem dX12_cut_98 : decode cX12_cut 98 = .ok (.aload_n 0, 1) := by decide +kernel
theorem dX12_cut_99 : decode cX12_cut 99 = .ok (.getfield 235, 3) := by decide +kernel
theorem dX12_cut_102 : decode cX12_cut 102 = .ok (.iconst 0, 1) := by decide +kernel
theorem dX12_cut_103 : decode cX12_cut 103 = .ok (.iastore, 1) := by decide +kernel
theorem dX12_cut_104 : decode cX12_cut 104 = .ok (.iload_n 3, 1) := by decide +kernel
theorem dX12_cut_105 : decode cX12_cut 105 = .ok (.invokestatic 241, 3) := by decide +kernel
theorem dX12_cut_108 : decode cX12_cut 108 = .ok (.ifCond .eq 100, 3) := by decide +kernel
theorem dX12_cut_111 : decode cX12_cut 111 = .ok (.iload_n 2, 1) := by decide +kernel
theorem dX12_cut_112 : decode cX12_cut 112 = .ok (.istore 4, 2) := by decide +kernel
theorem dX12_cut_114 : decode cX12_cut 114 = .ok (.iload 4, 2) := by decide +kernel
theorem dX12_cut_116 : decode cX12_cut 116 = .ok (.aload_n 0, 1) := by decide +kernel
theorem dX12_cut_117 : decode cX12_cut 117 = .ok (.getfield 226, 3) := by decide +kernel
theorem dX12_cut_120 : decode cX12_cut 120 = .ok (.if_icmp .ge 66, 3) := by decide +kernel
theorem dX12_cut_123 : decode cX12_cut 123 = .ok (.aload_n 0, 1) := by decide +kernel
theorem dX12_cut_124 : decode cX12_cut 124 = .ok (.getfield 94, 3) := by decide +kernel
theorem dX12_cut_127 : decode cX12_cut 127 = .ok (.iload 4, 2) := by decide +kernel
theorem dX12_cut_129 : decode cX12_cut 129 = .ok (.baload, 1) := by decide +kernel
theorem dX12_cut_130 : decode cX12_cut 130 = .ok (.invokestatic 241, 3) := by decide +kernel
theorem dX12_cut_133 : decode cX12_cut 133 = .ok (.ifCond .eq 53, 3) := by decide +kernel
theorem dX12_cut_136 : decode cX12_cut 136 = .ok (.aload_n 0, 1) := by decide +kernel
theorem dX12_cut_137 : decode cX12_cut 137 = .ok (.getfield 108, 3) := by decide +kernel
theorem dX12_cut_140 : decode cX12_cut 140 = .ok (.aload_n 0, 1) := by decide +kernel
theorem dX12_cut_141 : decode cX12_cut 141 = .ok (.getfield 235, 3) := by decide +kernel
theorem dX12_cut_144 : decode cX12_cut 144 = .ok (.iload 4, 2) := by decide +kernel
theorem dX12_cut_146 : decode cX12_cut 146 = .ok (.iload_n 2, 1) := by decide +kernel
theorem dX12_cut_147 : decode cX12_cut 147 = .ok (.isub, 1) := by decide +kernel
theorem dX12_cut_148 : decode cX12_cut 148 = .ok (.iconst 4, 1) := by decide +kernel
theorem dX12_cut_149 : decode cX12_cut 149 = .ok (.if_icmp .ge 29, 3) := by decide +kernel
theorem dX12_cut_152 : decode cX12_cut 152 = .ok (.bipush 10, 2) := by decide +kernel
theorem dX12_cut_154 : decode cX12_cut 154 = .ok (.aload_n 0, 1) := by decide +kernel
theorem dX12_cut_155 : decode cX12_cut 155 = .ok (.getfield 108, 3) := by decide +kernel
theorem dX12_cut_158 : decode cX12_cut 158 = .ok (.aload_n 0, 1) := by decide +kernel
theorem dX12_cut_159 : decode cX12_cut 159 = .ok (.getfield 235, 3) := by decide +kernel
theorem dX12_cut_162 : decode cX12_cut 162 = .ok (.iaload, 1) := by decide +kernel
theorem dX12_cut_163 : decode cX12_cut 163 = .ok (.imul, 1) := by decide +kernel
theorem dX12_cut_164 : decode cX12_cut 164 = .ok (.aload_n 0, 1) := by decide +kernel
theorem dX12_cut_165 : decode cX12_cut 165 = .ok (.getfield 94, 3) := by decide +kernel
theorem dX12_cut_168 : decode cX12_cut 168 = .ok (.iload 4, 2) := by decide +kernel
theorem dX12_cut_170 : decode cX12_cut 170 = .ok (.baload, 1) := by decide +kernel
theorem dX12_cut_171 : decode cX12_cut 171 = .ok (.iadd, 1) := by decide +kernel
theorem dX12_cut_172 : decode cX12_cut 172 = .ok (.bipush 48, 2) := by decide +kernel
theorem dX12_cut_174 : decode cX12_cut 174 = .ok (.isub, 1) := by decide +kernel
theorem dX12_cut_175 : decode cX12_cut 175 = .ok (.goto 4, 3) := by decide +kernel
theorem dX12_cut_178 : decode cX12_cut 178 = .ok (.iconst 0, 1) := by decide +kernel
theorem dX12_cut_179 : decode cX12_cut 179 = .ok (.iastore, 1) := by decide +kernel
theorem dX12_cut_180 : decode cX12_cut 180 = .ok (.iinc 4 1, 3) := by decide +kernel
theorem dX12_cut_183 : decode cX12_cut 183 = .ok (.goto (-69), 3) := by decide +kernel
theorem dX12_cut_186 : decode cX12_cut 186 = .ok (.aload_n 0, 1) := by decide +kernel
theorem dX12_cut_187 : decode cX12_cut 187 = .ok (.getfield 102, 3) := by decide +kernel
theorem dX12_cut_190 : decode cX12_cut 190 = .ok (.aload_n 0, 1) := by decide +kernel
theorem dX12_cut_191 : decode cX12_cut 191 = .ok (.getfield 235, 3) := by decide +kernel
theorem dX12_cut_194 : decode cX12_cut 194 = .ok (.iload 4, 2) := by decide +kernel
theorem dX12_cut_196 : decode cX12_cut 196 = .ok (.iload_n 2, 1) := by decide +kernel
theorem dX12_cut_197 : decode cX12_cut 197 = .ok (.isub, 1) := by decide +kernel
theorem dX12_cut_198 : decode cX12_cut 198 = .ok (.iconst 4, 1) := by decide +kernel
theorem dX12_cut_199 : decode cX12_cut 199 = .ok (.if_icmp .le 7, 3) := by decide +kernel
theorem dX12_cut_202 : decode cX12_cut 202 = .ok (.iconst 2, 1) := by decide +kernel
theorem dX12_cut_203 : decode cX12_cut 203 = .ok (.goto 4, 3) := by decide +kernel
theorem dX12_cut_206 : decode cX12_cut 206 = .ok (.iconst 1, 1) := by decide +kernel
theorem dX12_cut_207 : decode cX12_cut 207 = .ok (.iastore, 1) := by decide +kernel
theorem dX12_cut_208 : decode cX12_cut 208 = .ok (.aload_n 0, 1) := by decide +kernel
theorem dX12_cut_209 : decode cX12_cut 209 = .ok (.getfield 102, 3) := by decide +kernel
theorem dX12_cut_212 : decode cX12_cut 212 = .ok (.aload_n 0, 1) := by decide +kernel
theorem dX12_cut_213 : decode cX12_cut 213 = .ok (.getfield 235, 3) := by decide +kernel
theorem dX12_cut_216 : decode cX12_cut 216 = .ok (.iaload, 1) := by decide +kernel
theorem dX12_cut_217 : decode cX12_cut 217 = .ok (.iconst 2, 1) := by decide +kernel
theorem dX12_cut_218 : decode cX12_cut 218 = .ok (.if_icmp .eq 7, 3) := by decide +kernel
theorem dX12_cut_221 : decode cX12_cut 221 = .ok (.iconst 1, 1) := by decide +kernel
theorem dX12_cut_222 : decode cX12_cut 222 = .ok (.goto 4, 3) := by decide +kernel
theorem dX12_cut_225 : decode cX12_cut 225 = .ok (.iconst 0, 1) := by decide +kernel
theorem dX12_cut_226 : decode cX12_cut 226 = .ok (.istore_n 1, 1) := by decide +kernel
theorem dX12_cut_227 : decode cX12_cut 227 = .ok (.aload_n 0, 1) := by decide +kernel
theorem dX12_cut_228 : decode cX12_cut 228 = .ok (.dup, 1) := by decide +kernel
theorem dX12_cut_229 : decode cX12_cut 229 = .ok (.getfield 235, 3) := by decide +kernel
theorem dX12_cut_232 : decode cX12_cut 232 = .ok (.iconst 1, 1) := by decide +kernel
theorem dX12_cut_233 : decode cX12_cut 233 = .ok (.iadd, 1) := by decide +kernel
theorem dX12_cut_234 : decode cX12_cut 234 = .ok (.putfield 235, 3) := by decide +kernel
theorem dX12_cut_237 : decode cX12_cut 237 = .ok (.iload 4, 2) := by decide +kernel
theorem dX12_cut_239 : decode cX12_cut 239 = .ok (.istore_n 2, 1) := by decide +kernel
theorem dX12_cut_240 : decode cX12_cut 240 = .ok (.goto (-231), 3) := by decide +kernel
theorem dX12_cut_243 : decode cX12_cut 243 = .ok (.return_, 1) := by decide +kernel
theorem dX12_want_0 : decode cX12_want 0 = .ok (.aload_n 0, 1) := by decide +kernel
theorem dX12_want_1 : decode cX12_want 1 = .ok (.getfield 111, 3) := by decide +kernel
theorem dX12_want_4 : decode cX12_want 4 = .ok (.aload_n 0, 1) := by decide +kernel
theorem dX12_want_5 : decode cX12_want 5 = .ok (.getfield 244, 3) := by decide +kernel
theorem dX12_want_8 : decode cX12_want 8 = .ok (.iload_n 1, 1) := by decide +kernel
theorem dX12_want_9 : decode cX12_want 9 = .ok (.iastore, 1) := by decide +kernel
theorem dX12_want_10 : decode cX12_want 10 = .ok (.aload_n 0, 1) := by decide +kernel
theorem dX12_want_11 : decode cX12_want 11 = .ok (.dup, 1) := by decide +kernel
theorem dX12_want_12 : decode cX12_want 12 = .ok (.getfield 244, 3) := by decide +kernel
theorem dX12_want_15 : decode cX12_want 15 = .ok (.iconst 1, 1) := by decide +kernel
theorem dX12_want_16 : decode cX12_want 16 = .ok (.iadd, 1) := by decide +kernel
theorem dX12_want_17 : decode cX12_want 17 = .ok (.putfield 244, 3) := by decide +kernel
theorem dX12_want_20 : decode cX12_want 20 = .ok (.return_, 1) := by decide +kernel
set_option maxRecDepth 20000 in
theorem ggX12_bad_X12_want : GoodIn wsX12_bad wsX12_want := goodIn_r _ [8, 2, 1, 17, 18, 19, 20, 21, 22, 23, 24, 25, 26, 27, 28, 29, 30, 31, 32, 33, 34, 35, 36, 37, 38, 39, 40, 41, 42, 43, 44, 45, 46, 47, 48, 49, 50, 51, 52, 53, 54, 55, 56, 57, 58, 59, 60, 61, 62, 63, 64, 65, 66, 67, 68, 69, 70, 71, 72, 73, 74] rfl (by decide +kernel)
set_option maxRecDepth 20000 in
theorem gX12_bad_X12_want : GoodIn wsX12_bad (wsV RX12 247 RX12 yX12_want wsX12_want) := goodIn_app (goodIn_of _ (by decide +kernel)) ggX12_bad_X12_want
set_option maxRecDepth 20000 in
theorem ggX12_bad_X12_node : GoodIn wsX12_bad wsX12_node := goodIn_r _ [12, 4, 5, 6, 7, 8, 2, 1, 17, 18, 19, 20, 21, 22, 23, 24, 25, 26, 27, 28, 29, 30, 31, 32, 33, 34, 35, 36, 37, 38, 39, 40, 41, 42, 43, 44, 45, 46, 47, 48, 49, 50, 51, 52, 53, 54, 55, 56, 57, 58, 59, 60, 61, 62, 63, 64, 65, 66, 67, 68, 69, 70, 71, 72, 73, 74] rfl (by decide +kernel)
set_option maxRecDepth 20000 in
theorem gX12_bad_X12_node : GoodIn wsX12_bad (wsV RX12 250 RX12 yX12_node wsX12_node) := goodIn_app (goodIn_of _ (by decide +kernel)) ggX12_bad_X12_node
theorem dX12_bad_0 : decode cX12_bad 0 = .ok (.aload_n 0, 1) := by decide +kernel
theorem dX12_bad_1 : decode cX12_bad 1 = .ok (.iconst 0, 1) := by decide +kernel
theorem dX12_bad_2 : decode cX12_bad 2 = .ok (.putfield 244, 3) := by decide +kernel
theorem dX12_bad_5 : decode cX12_bad 5 = .ok (.aload_n 0, 1) := by decide +kernel
theorem dX12_bad_6 : decode cX12_bad 6 = .ok (.iconst 0, 1) := by decide +kernel
theorem dX12_bad_7 : decode cX12_bad 7 = .ok (.invokevirtual 247, 3) := by decide +kernel
theorem dX12_bad_10 : decode cX12_bad 10 = .ok (.aload_n 0, 1) := by decide +kernel
theorem dX12_bad_11 : decode cX12_bad 11 = .ok (.sipush 300, 3) := by decide +kernel
theorem dX12_bad_14 : decode cX12_bad 14 = .ok (.invokevirtual 247, 3) := by decide +kernel
theorem dX12_bad_17 : decode cX12_bad 17 = .ok (.iconst 0, 1) := by decide +kernel
theorem dX12_bad_18 : decode cX12_bad 18 = .ok (.istore_n 1, 1) := by decide +kernel
theorem dX12_bad_19 : decode cX12_bad 19 = .ok (.aload_n 0, 1) := by decide +kernel
theorem dX12_bad_20 : decode cX12_bad 20 = .ok (.getfield 244, 3) := by decide +kernel
theorem dX12_bad_23 : decode cX12_bad 23 = .ok (.ifCond .le 85, 3) := by decide +kernel
theorem dX12_bad_26 : decode cX12_bad 26 = .ok (.aload_n 0, 1) := by decide +kernel
theorem dX12_bad_27 : decode cX12_bad 27 = .ok (.dup, 1) := by decide +kernel
theorem dX12_bad_28 : decode cX12_bad 28 = .ok (.getfield 244, 3) := by decide +kernel
theorem dX12_bad_31 : decode cX12_bad 31 = .ok (.iconst 1, 1) := by decide +kernel
theorem dX12_bad_32 : decode cX12_bad 32 = .ok (.isub, 1) := by decide +kernel
theorem dX12_bad_33 : decode cX12_bad 33 = .ok (.putfield 244, 3) := by decide +kernel
theorem dX12_bad_36 : decode cX12_bad 36 = .ok (.aload_n 0, 1) := by decide +kernel
theorem dX12_bad_37 : decode cX12_bad 37 = .ok (.getfield 111, 3) := by decide +kernel
theorem dX12_bad_40 : decode cX12_bad 40 = .ok (.aload_n 0, 1) := by decide +kernel
theorem dX12_bad_41 : decode cX12_bad 41 = .ok (.getfield 244, 3) := by decide +kernel
theorem dX12_bad_44 : decode cX12_bad 44 = .ok (.iaload, 1) := by decide +kernel
theorem dX12_bad_45 : decode cX12_bad 45 = .ok (.istore_n 2, 1) := by decide +kernel
theorem dX12_bad_46 : decode cX12_bad 46 = .ok (.aload_n 0, 1) := by decide +kernel
theorem dX12_bad_47 : decode cX12_bad 47 = .ok (.getfield 102, 3) := by decide +kernel
theorem dX12_bad_50 : decode cX12_bad 50 = .ok (.iload_n 1, 1) := by decide +kernel
theorem dX12_bad_51 : decode cX12_bad 51 = .ok (.iaload, 1) := by decide +kernel
theorem dX12_bad_52 : decode cX12_bad 52 = .ok (.istore_n 3, 1) := by decide +kernel
theorem dX12_bad_53 : decode cX12_bad 53 = .ok (.iload_n 2, 1) := by decide +kernel
theorem dX12_bad_54 : decode cX12_bad 54 = .ok (.sipush 300, 3) := by decide +kernel
theorem dX12_bad_57 : decode cX12_bad 57 = .ok (.if_icmp .ge 16, 3) := by decide +kernel
theorem dX12_bad_60 : decode cX12_bad 60 = .ok (.iload_n 3, 1) := by decide +kernel
theorem dX12_bad_61 : decode cX12_bad 61 = .ok (.iload_n 2, 1) := by decide +kernel
theorem dX12_bad_62 : decode cX12_bad 62 = .ok (.if_icmp .eq 5, 3) := by decide +kernel
theorem dX12_bad_65 : decode cX12_bad 65 = .ok (.iload_n 1, 1) := by decide +kernel
theorem dX12_bad_66 : decode cX12_bad 66 = .ok (.ireturn, 1) := by decide +kernel
theorem dX12_bad_67 : decode cX12_bad 67 = .ok (.iinc 1 1, 3) := by decide +kernel
theorem dX12_bad_70 : decode cX12_bad 70 = .ok (.goto 35, 3) := by decide +kernel
theorem dX12_bad_73 : decode cX12_bad 73 = .ok (.iload_n 2, 1) := by decide +kernel
theorem dX12_bad_74 : decode cX12_bad 74 = .ok (.sipush 300, 3) := by decide +kernel
theorem dX12_bad_77 : decode cX12_bad 77 = .ok (.if_icmp .ne 19, 3) := by decide +kernel
theorem dX12_bad_80 : decode cX12_bad 80 = .ok (.aload_n 0, 1) := by decide +kernel
theorem dX12_bad_81 : decode cX12_bad 81 = .ok (.iload_n 3, 1) := by decide +kernel
theorem dX12_bad_82 : decode cX12_bad 82 = .ok (.invokevirtual 250, 3) := by decide +kernel
theorem dX12_bad_85 : decode cX12_bad 85 = .ok (.ifCond .ne 5, 3) := by decide +kernel
theorem dX12_bad_88 : decode cX12_bad 88 = .ok (.iload_n 1, 1) := by decide +kernel
theorem dX12_bad_89 : decode cX12_bad 89 = .ok (.ireturn, 1) := by decide +kernel
theorem dX12_bad_90 : decode cX12_bad 90 = .ok (.iinc 1 1, 3) := by decide +kernel
theorem dX12_bad_93 : decode cX12_bad 93 = .ok (.goto 12, 3) := by decide +kernel
theorem dX12_bad_96 : decode cX12_bad 96 = .ok (.iload_n 1, 1) := by decide +kernel
theorem dX12_bad_97 : decode cX12_bad 97 = .ok (.aload_n 0, 1) := by decide +kernel
theorem dX12_bad_98 : decode cX12_bad 98 = .ok (.iload_n 2, 1) := by decide +kernel
theorem dX12_bad_99 : decode cX12_bad 99 = .ok (.iload_n 3, 1) := by decide +kernel
theorem dX12_bad_100 : decode cX12_bad 100 = .ok (.invokevirtual 253, 3) := by decide +kernel
theorem dX12_bad_103 : decode cX12_bad 103 = .ok (.iadd, 1) := by decide +kernel
theorem dX12_bad_104 : decode cX12_bad 104 = .ok (.istore_n 1, 1) := by decide +kernel
theorem dX12_bad_105 : decode cX12_bad 105 = .ok (.goto (-86), 3) := by decide +kernel
theorem dX12_bad_108 : decode cX12_bad 108 = .ok (.iconst (-1), 1) := by decide +kernel
theorem dX12_bad_109 : decode cX12_bad 109 = .ok (.ireturn, 1) := by decide +kernel
set_option maxRecDepth 20000 in
theorem ggX12_node_X12_want : GoodIn wsX12_node wsX12_want := goodIn_r _ [5, 6, 7, 8, 9, 10, 11, 12, 13, 14, 15, 16, 17, 18, 19, 20, 21, 22, 23, 24, 25, 26, 27, 28, 29, 30, 31, 32, 33, 34, 35, 36, 37, 38, 39, 40, 41, 42, 43, 44, 45, 46, 47, 48, 49, 50, 51, 52, 53, 54, 55, 56, 57, 58, 59, 60, 61, 62, 63, 64, 65] rfl (by decide +kernel)
set_option maxRecDepth 20000 in
theorem gX12_node_X12_want : GoodIn wsX12_node (wsV RX12 247 RX12 yX12_want wsX12_want) := goodIn_app (goodIn_of _ (by decide +kernel)) ggX12_node_X12_want
theorem dX12_node_0 : decode cX12_node 0 = .ok (.iload_n 1, 1) := by decide +kernel
theorem dX12_node_1 : decode cX12_node 1 = .ok (.bipush 91, 2) := by decide +kernel
theorem dX12_node_3 : decode cX12_node 3 = .ok (.if_icmp .ne 19, 3) := by decide +kernel
theorem dX12_node_6 : decode cX12_node 6 = .ok (.aload_n 0, 1) := by decide +kernel
theorem dX12_node_7 : decode cX12_node 7 = .ok (.bipush 93, 2) := by decide +kernel
theorem dX12_node_9 : decode cX12_node 9 = .ok (.invokevirtual 247, 3) := by decide +kernel
theorem dX12_node_12 : decode cX12_node 12 = .ok (.aload_n 0, 1) := by decide +kernel
theorem dX12_node_13 : decode cX12_node 13 = .ok (.sipush 301, 3) := by decide +kernel
theorem dX12_node_16 : decode cX12_node 16 = .ok (.invokevirtual 247, 3) := by decide +kernel
theorem dX12_node_19 : decode cX12_node 19 = .ok (.goto 86, 3) := by decide +kernel
theorem dX12_node_22 : decode cX12_node 22 = .ok (.iload_n 1, 1) := by decide +kernel
theorem dX12_node_23 : decode cX12_node 23 = .ok (.bipush 63, 2) := by decide +kernel
theorem dX12_node_25 : decode cX12_node 25 = .ok (.if_icmp .ne 32, 3) := by decide +kernel
theorem dX12_node_28 : decode cX12_node 28 = .ok (.aload_n 0, 1) := by decide +kernel
theorem dX12_node_29 : decode cX12_node 29 = .ok (.bipush 41, 2) := by decide +kernel
theorem dX12_node_31 : decode cX12_node 31 = .ok (.invokevirtual 247, 3) := by decide +kernel
theorem dX12_node_34 : decode cX12_node 34 = .ok (.aload_n 0, 1) := by decide +kernel
theorem dX12_node_35 : decode cX12_node 35 = .ok (.sipush 304, 3) := by decide +kernel
theorem dX12_node_38 : decode cX12_node 38 = .ok (.invokevirtual 247, 3) := by decide +kernel
theorem dX12_node_41 : decode cX12_node 41 = .ok (.aload_n 0, 1) := by decide +kernel
theorem dX12_node_42 : decode cX12_node 42 = .ok (.sipush 303, 3) := by decide +kernel
theorem dX12_node_45 : decode cX12_node 45 = .ok (.invokevirtual 247, 3) := by decide +kernel
theorem dX12_node_48 : decode cX12_node 48 = .ok (.aload_n 0, 1) := by decide +kernel
theorem dX12_node_49 : decode cX12_node 49 = .ok (.bipush 40, 2) := by decide +kernel
theorem dX12_node_51 : decode cX12_node 51 = .ok (.invokevirtual 247, 3) := by decide +kernel
theorem dX12_node_54 : decode cX12_node 54 = .ok (.goto 51, 3) := by decide +kernel
theorem dX12_node_57 : decode cX12_node 57 = .ok (.iload_n 1, 1) := by decide +kernel
theorem dX12_node_58 : decode cX12_node 58 = .ok (.bipush 65, 2) := by decide +kernel
theorem dX12_node_60 : decode cX12_node 60 = .ok (.if_icmp .eq 9, 3) := by decide +kernel
theorem dX12_node_63 : decode cX12_node 63 = .ok (.iload_n 1, 1) := by decide +kernel
theorem dX12_node_64 : decode cX12_node 64 = .ok (.bipush 66, 2) := by decide +kernel
theorem dX12_node_66 : decode cX12_node 66 = .ok (.if_icmp .ne 37, 3) := by decide +kernel
theorem dX12_node_69 : decode cX12_node 69 = .ok (.aload_n 0, 1) := by decide +kernel
theorem dX12_node_70 : decode cX12_node 70 = .ok (.bipush 41, 2) := by decide +kernel
theorem dX12_node_72 : decode cX12_node 72 = .ok (.invokevirtual 247, 3) := by decide +kernel
theorem dX12_node_75 : decode cX12_node 75 = .ok (.aload_n 0, 1) := by decide +kernel
theorem dX12_node_76 : decode cX12_node 76 = .ok (.sipush 305, 3) := by decide +kernel
theorem dX12_node_79 : decode cX12_node 79 = .ok (.invokevirtual 247, 3) := by decide +kernel
theorem dX12_node_82 : decode cX12_node 82 = .ok (.aload_n 0, 1) := by decide +kernel
theorem dX12_node_83 : decode cX12_node 83 = .ok (.sipush 300, 3) := by decide +kernel
theorem dX12_node_86 : decode cX12_node 86 = .ok (.invokevirtual 247, 3) := by decide +kernel
theorem dX12_node_89 : decode cX12_node 89 = .ok (.aload_n 0, 1) := by decide +kernel
theorem dX12_node_90 : decode cX12_node 90 = .ok (.bipush 40, 2) := by decide +kernel
theorem dX12_node_92 : decode cX12_node 92 = .ok (.invokevirtual 247, 3) := by decide +kernel
theorem dX12_node_95 : decode cX12_node 95 = .ok (.aload_n 0, 1) := by decide +kernel
theorem dX12_node_96 : decode cX12_node 96 = .ok (.iconst 1, 1) := by decide +kernel
theorem dX12_node_97 : decode cX12_node 97 = .ok (.invokevirtual 247, 3) := by decide +kernel
theorem dX12_node_100 : decode cX12_node 100 = .ok (.goto 5, 3) := by decide +kernel
theorem dX12_node_103 : decode cX12_node 103 = .ok (.iconst 0, 1) := by decide +kernel
theorem dX12_node_104 : decode cX12_node 104 = .ok (.ireturn, 1) := by decide +kernel
theorem dX12_node_105 : decode cX12_node 105 = .ok (.iconst 1, 1) := by decide +kernel
theorem dX12_node_106 : decode cX12_node 106 = .ok (.ireturn, 1) := by decide +kernel
set_option maxRecDepth 20000 in
theorem ggX12_read_X12_cut : GoodIn wsX12_read wsX12_cut := goodIn_r _ [17, 18, 2, 19, 20, 3, 21, 22, 23, 16, 24, 25, 26, 27, 130, 131, 132, 133, 134, 135, 136, 137, 138, 139, 140, 141, 142, 143, 144, 145, 146, 147, 148, 149, 150, 151, 152, 153, 154, 155, 156, 157, 158, 159, 160, 161, 162, 163, 164, 165, 166, 167, 168, 169, 170, 171, 172, 173, 174, 175, 176, 177, 178, 179, 180, 181, 182, 183, 184, 185, 186, 187] rfl (by decide +kernel)
