theorem dX11_init_91 : decode cX11_init 91 = .ok (.aload_n 0, 1) := by decide +kernel
theorem dX11_init_92 : decode cX11_init 92 = .ok (.new 57, 3) := by decide +kernel
theorem dX11_init_95 : decode cX11_init 95 = .ok (.dup, 1) := by decide +kernel
theorem dX11_init_96 : decode cX11_init 96 = .ok (.invokespecial 63, 3) := by decide +kernel
theorem dX11_init_99 : decode cX11_init 99 = .ok (.putfield 64, 3) := by decide +kernel
theorem dX11_init_102 : decode cX11_init 102 = .ok (.aload_n 0, 1) := by decide +kernel
theorem dX11_init_103 : decode cX11_init 103 = .ok (.new 68, 3) := by decide +kernel
theorem dX11_init_106 : decode cX11_init 106 = .ok (.dup, 1) := by decide +kernel
theorem dX11_init_107 : decode cX11_init 107 = .ok (.bipush 32, 2) := by decide +kernel
theorem dX11_init_109 : decode cX11_init 109 = .ok (.invokespecial 70, 3) := by decide +kernel
theorem dX11_init_112 : decode cX11_init 112 = .ok (.putfield 73, 3) := by decide +kernel
theorem dX11_init_115 : decode cX11_init 115 = .ok (.aload_n 0, 1) := by decide +kernel
theorem dX11_init_116 : decode cX11_init 116 = .ok (.new 68, 3) := by decide +kernel
theorem dX11_init_119 : decode cX11_init 119 = .ok (.dup, 1) := by decide +kernel
theorem dX11_init_120 : decode cX11_init 120 = .ok (.bipush 32, 2) := by decide +kernel
theorem dX11_init_122 : decode cX11_init 122 = .ok (.invokespecial 70, 3) := by decide +kernel
theorem dX11_init_125 : decode cX11_init 125 = .ok (.putfield 77, 3) := by decide +kernel
theorem dX11_init_128 : decode cX11_init 128 = .ok (.aload_n 0, 1) := by decide +kernel
theorem dX11_init_129 : decode cX11_init 129 = .ok (.new 80, 3) := by decide +kernel
theorem dX11_init_132 : decode cX11_init 132 = .ok (.dup, 1) := by decide +kernel
theorem dX11_init_133 : decode cX11_init 133 = .ok (.invokespecial 82, 3) := by decide +kernel
theorem dX11_init_136 : decode cX11_init 136 = .ok (.putfield 83, 3) := by decide +kernel
theorem dX11_init_139 : decode cX11_init 139 = .ok (.aload_n 0, 1) := by decide +kernel
theorem dX11_init_140 : decode cX11_init 140 = .ok (.iconst 0, 1) := by decide +kernel
theorem dX11_init_141 : decode cX11_init 141 = .ok (.putfield 87, 3) := by decide +kernel
theorem dX11_init_144 : decode cX11_init 144 = .ok (.aload_n 0, 1) := by decide +kernel
theorem dX11_init_145 : decode cX11_init 145 = .ok (.iconst (-1), 1) := by decide +kernel
theorem dX11_init_146 : decode cX11_init 146 = .ok (.putfield 91, 3) := by decide +kernel
theorem dX11_init_149 : decode cX11_init 149 = .ok (.iconst 0, 1) := by decide +kernel
theorem dX11_init_150 : decode cX11_init 150 = .ok (.istore_n 1, 1) := by decide +kernel
theorem dX11_init_151 : decode cX11_init 151 = .ok (.iload_n 1, 1) := by decide +kernel
theorem dX11_init_152 : decode cX11_init 152 = .ok (.iconst 2, 1) := by decide +kernel
theorem dX11_init_153 : decode cX11_init 153 = .ok (.if_icmp .ge 61, 3) := by decide +kernel
theorem dX11_init_156 : decode cX11_init 156 = .ok (.aload_n 0, 1) := by decide +kernel
theorem dX11_init_157 : decode cX11_init 157 = .ok (.getfield 33, 3) := by decide +kernel
theorem dX11_init_160 : decode cX11_init 160 = .ok (.iload_n 1, 1) := by decide +kernel
theorem dX11_init_161 : decode cX11_init 161 = .ok (.new 31, 3) := by decide +kernel
theorem dX11_init_164 : decode cX11_init 164 = .ok (.dup, 1) := by decide +kernel
theorem dX11_init_165 : decode cX11_init 165 = .ok (.invokespecial 94, 3) := by decide +kernel
theorem dX11_init_168 : decode cX11_init 168 = .ok (.aastore, 1) := by decide +kernel
theorem dX11_init_169 : decode cX11_init 169 = .ok (.aload_n 0, 1) := by decide +kernel
theorem dX11_init_170 : decode cX11_init 170 = .ok (.getfield 39, 3) := by decide +kernel
theorem dX11_init_173 : decode cX11_init 173 = .ok (.iload_n 1, 1) := by decide +kernel
theorem dX11_init_174 : decode cX11_init 174 = .ok (.new 37, 3) := by decide +kernel
theorem dX11_init_177 : decode cX11_init 177 = .ok (.dup, 1) := by decide +kernel
theorem dX11_init_178 : decode cX11_init 178 = .ok (.invokespecial 95, 3) := by decide +kernel
theorem dX11_init_181 : decode cX11_init 181 = .ok (.aastore, 1) := by decide +kernel
theorem dX11_init_182 : decode cX11_init 182 = .ok (.aload_n 0, 1) := by decide +kernel
theorem dX11_init_183 : decode cX11_init 183 = .ok (.getfield 43, 3) := by decide +kernel
theorem dX11_init_186 : decode cX11_init 186 = .ok (.iload_n 1, 1) := by decide +kernel
theorem dX11_init_187 : decode cX11_init 187 = .ok (.new 37, 3) := by decide +kernel
theorem dX11_init_190 : decode cX11_init 190 = .ok (.dup, 1) := by decide +kernel
theorem dX11_init_191 : decode cX11_init 191 = .ok (.invokespecial 95, 3) := by decide +kernel
theorem dX11_init_194 : decode cX11_init 194 = .ok (.aastore, 1) := by decide +kernel
theorem dX11_init_195 : decode cX11_init 195 = .ok (.aload_n 0, 1) := by decide +kernel
theorem dX11_init_196 : decode cX11_init 196 = .ok (.getfield 48, 3) := by decide +kernel
theorem dX11_init_199 : decode cX11_init 199 = .ok (.iload_n 1, 1) := by decide +kernel
theorem dX11_init_200 : decode cX11_init 200 = .ok (.new 46, 3) := by decide +kernel
theorem dX11_init_203 : decode cX11_init 203 = .ok (.dup, 1) := by decide +kernel
theorem dX11_init_204 : decode cX11_init 204 = .ok (.invokespecial 52, 3) := by decide +kernel
theorem dX11_init_207 : decode cX11_init 207 = .ok (.aastore, 1) := by decide +kernel
theorem dX11_init_208 : decode cX11_init 208 = .ok (.iinc 1 1, 3) := by decide +kernel
theorem dX11_init_211 : decode cX11_init 211 = .ok (.goto (-60), 3) := by decide +kernel
theorem dX11_init_214 : decode cX11_init 214 = .ok (.iconst 0, 1) := by decide +kernel
theorem dX11_init_215 : decode cX11_init 215 = .ok (.istore_n 1, 1) := by decide +kernel
theorem dX11_init_216 : decode cX11_init 216 = .ok (.iload_n 1, 1) := by decide +kernel
theorem dX11_init_217 : decode cX11_init 217 = .ok (.iconst 4, 1) := by decide +kernel
theorem dX11_init_218 : decode cX11_init 218 = .ok (.if_icmp .ge 22, 3) := by decide +kernel
theorem dX11_init_221 : decode cX11_init 221 = .ok (.aload_n 0, 1) := by decide +kernel
theorem dX11_init_222 : decode cX11_init 222 = .ok (.getfield 59, 3) := by decide +kernel
theorem dX11_init_225 : decode cX11_init 225 = .ok (.iload_n 1, 1) := by decide +kernel
theorem dX11_init_226 : decode cX11_init 226 = .ok (.new 57, 3) := by decide +kernel
theorem dX11_init_229 : decode cX11_init 229 = .ok (.dup, 1) := by decide +kernel
theorem dX11_init_230 : decode cX11_init 230 = .ok (.invokespecial 63, 3) := by decide +kernel
theorem dX11_init_233 : decode cX11_init 233 = .ok (.aastore, 1) := by decide +kernel
theorem dX11_init_234 : decode cX11_init 234 = .ok (.iinc 1 1, 3) := by decide +kernel
theorem dX11_init_237 : decode cX11_init 237 = .ok (.goto (-21), 3) := by decide +kernel
theorem dX11_init_240 : decode cX11_init 240 = .ok (.return_, 1) := by decide +kernel
set_option maxRecDepth 20000 in
theorem ggX11_type_X10_append : GoodIn wsX11_type wsX10_append := goodIn_s _ [(8, 5), (7, 1), (13, 1), (43, 6)] rfl (by decide +kernel)
set_option maxRecDepth 20000 in
theorem gX11_type_X10_append : GoodIn wsX11_type (wsV RX11 100 RX10 yX10_append wsX10_append) := goodIn_app (goodIn_r _ [4, 5, 6, 7] rfl (by decide +kernel)) ggX11_type_X10_append
theorem dX11_type_0 : decode cX11_type 0 = .ok (.aload_n 0, 1) := by decide +kernel
theorem dX11_type_1 : decode cX11_type 1 = .ok (.getfield 12, 3) := by decide +kernel
theorem dX11_type_4 : decode cX11_type 4 = .ok (.getfield 96, 3) := by decide +kernel
theorem dX11_type_7 : decode cX11_type 7 = .ok (.lload_n 1, 1) := by decide +kernel
theorem dX11_type_8 : decode cX11_type 8 = .ok (.iload_n 3, 1) := by decide +kernel
theorem dX11_type_9 : decode cX11_type 9 = .ok (.invokevirtual 100, 3) := by decide +kernel
theorem dX11_type_12 : decode cX11_type 12 = .ok (.ifCond .eq 16, 3) := by decide +kernel
theorem dX11_type_15 : decode cX11_type 15 = .ok (.aload_n 0, 1) := by decide +kernel
theorem dX11_type_16 : decode cX11_type 16 = .ok (.getfield 12, 3) := by decide +kernel
theorem dX11_type_19 : decode cX11_type 19 = .ok (.getfield 96, 3) := by decide +kernel
theorem dX11_type_22 : decode cX11_type 22 = .ok (.getfield 106, 3) := by decide +kernel
theorem dX11_type_25 : decode cX11_type 25 = .ok (.goto 4, 3) := by decide +kernel
theorem dX11_type_28 : decode cX11_type 28 = .ok (.iconst (-1), 1) := by decide +kernel
theorem dX11_type_29 : decode cX11_type 29 = .ok (.ireturn, 1) := by decide +kernel
set_option maxRecDepth 20000 in
theorem ggX11_read_X5_understand : GoodIn wsX11_read wsX5_understand := goodIn_s _ [(12, 40), (11, 1), (52, 147), (233, 31)] rfl (by decide +kernel)
set_option maxRecDepth 20000 in
theorem gX11_read_X5_understand : GoodIn wsX11_read (wsV RX11 109 RX5 yX5_understand wsX5_understand) := goodIn_app (goodIn_r _ [8, 9, 10, 11] rfl (by decide +kernel)) ggX11_read_X5_understand
set_option maxRecDepth 20000 in
theorem ggX11_read_X5_exchange : GoodIn wsX11_read wsX5_exchange := goodIn_s _ [(202, 1), (13, 1), (233, 13)] rfl (by decide +kernel)
set_option maxRecDepth 20000 in
theorem gX11_read_X5_exchange : GoodIn wsX11_read (wsV RX11 114 RX5 yX5_exchange wsX5_exchange) := goodIn_app (goodIn_r _ [199, 200, 201, 11] rfl (by decide +kernel)) ggX11_read_X5_exchange
set_option maxRecDepth 20000 in
theorem ggX11_read_X11_startAnew : GoodIn wsX11_read wsX11_startAnew := goodIn_s _ [(206, 27), (264, 9)] rfl (by decide +kernel)
set_option maxRecDepth 20000 in
theorem gX11_read_X11_startAnew : GoodIn wsX11_read (wsV RX11 118 RX11 yX11_startAnew wsX11_startAnew) := goodIn_app (goodIn_r _ [203, 204, 205, 108] rfl (by decide +kernel)) ggX11_read_X11_startAnew
theorem dX11_read_0 : decode cX11_read 0 = .ok (.aload_n 0, 1) := by decide +kernel
theorem dX11_read_1 : decode cX11_read 1 = .ok (.getfield 12, 3) := by decide +kernel
theorem dX11_read_4 : decode cX11_read 4 = .ok (.invokevirtual 109, 3) := by decide +kernel
theorem dX11_read_7 : decode cX11_read 7 = .ok (.istore_n 1, 1) := by decide +kernel
theorem dX11_read_8 : decode cX11_read 8 = .ok (.aload_n 0, 1) := by decide +kernel
theorem dX11_read_9 : decode cX11_read 9 = .ok (.aload_n 0, 1) := by decide +kernel
theorem dX11_read_10 : decode cX11_read 10 = .ok (.getfield 12, 3) := by decide +kernel
theorem dX11_read_13 : decode cX11_read 13 = .ok (.getfield 113, 3) := by decide +kernel
theorem dX11_read_16 : decode cX11_read 16 = .ok (.putfield 91, 3) := by decide +kernel
theorem dX11_read_19 : decode cX11_read 19 = .ok (.aload_n 0, 1) := by decide +kernel
theorem dX11_read_20 : decode cX11_read 20 = .ok (.getfield 12, 3) := by decide +kernel
theorem dX11_read_23 : decode cX11_read 23 = .ok (.getfield 96, 3) := by decide +kernel
theorem dX11_read_26 : decode cX11_read 26 = .ok (.iconst 0, 1) := by decide +kernel
theorem dX11_read_27 : decode cX11_read 27 = .ok (.putfield 106, 3) := by decide +kernel
theorem dX11_read_30 : decode cX11_read 30 = .ok (.iload_n 1, 1) := by decide +kernel
theorem dX11_read_31 : decode cX11_read 31 = .ok (.ifCond .ne 27, 3) := by decide +kernel
theorem dX11_read_34 : decode cX11_read 34 = .ok (.aload_n 0, 1) := by decide +kernel
theorem dX11_read_35 : decode cX11_read 35 = .ok (.aload_n 0, 1) := by decide +kernel
theorem dX11_read_36 : decode cX11_read 36 = .ok (.getfield 12, 3) := by decide +kernel
theorem dX11_read_39 : decode cX11_read 39 = .ok (.aload_n 0, 1) := by decide +kernel
theorem dX11_read_40 : decode cX11_read 40 = .ok (.getfield 83, 3) := by decide +kernel
theorem dX11_read_43 : decode cX11_read 43 = .ok (.invokevirtual 114, 3) := by decide +kernel
theorem dX11_read_46 : decode cX11_read 46 = .ok (.putfield 83, 3) := by decide +kernel
theorem dX11_read_49 : decode cX11_read 49 = .ok (.aload_n 0, 1) := by decide +kernel
theorem dX11_read_50 : decode cX11_read 50 = .ok (.iconst 1, 1) := by decide +kernel
theorem dX11_read_51 : decode cX11_read 51 = .ok (.putfield 87, 3) := by decide +kernel
theorem dX11_read_54 : decode cX11_read 54 = .ok (.aload_n 0, 1) := by decide +kernel
theorem dX11_read_55 : decode cX11_read 55 = .ok (.invokevirtual 118, 3) := by decide +kernel
theorem dX11_read_58 : decode cX11_read 58 = .ok (.iload_n 1, 1) := by decide +kernel
theorem dX11_read_59 : decode cX11_read 59 = .ok (.ireturn, 1) := by decide +kernel
theorem dX11_place_0 : decode cX11_place 0 = .ok (.aload_n 0, 1) := by decide +kernel
theorem dX11_place_1 : decode cX11_place 1 = .ok (.getfield 91, 3) := by decide +kernel
theorem dX11_place_4 : decode cX11_place 4 = .ok (.ireturn, 1) := by decide +kernel
theorem dX11_count_0 : decode cX11_count 0 = .ok (.aload_n 0, 1) := by decide +kernel
theorem dX11_count_1 : decode cX11_count 1 = .ok (.getfield 87, 3) := by decide +kernel
theorem dX11_count_4 : decode cX11_count 4 = .ok (.ifCond .eq 24, 3) := by decide +kernel
theorem dX11_count_7 : decode cX11_count 7 = .ok (.iload_n 1, 1) := by decide +kernel
theorem dX11_count_8 : decode cX11_count 8 = .ok (.ifCond .lt 20, 3) := by decide +kernel
theorem dX11_count_11 : decode cX11_count 11 = .ok (.iload_n 1, 1) := by decide +kernel
theorem dX11_count_12 : decode cX11_count 12 = .ok (.iconst 4, 1) := by decide +kernel
theorem dX11_count_13 : decode cX11_count 13 = .ok (.if_icmp .ge 15, 3) := by decide +kernel
theorem dX11_count_16 : decode cX11_count 16 = .ok (.aload_n 0, 1) := by decide +kernel
theorem dX11_count_17 : decode cX11_count 17 = .ok (.getfield 83, 3) := by decide +kernel
theorem dX11_count_20 : decode cX11_count 20 = .ok (.getfield 121, 3) := by decide +kernel
theorem dX11_count_23 : decode cX11_count 23 = .ok (.iload_n 1, 1) := by decide +kernel
theorem dX11_count_24 : decode cX11_count 24 = .ok (.iaload, 1) := by decide +kernel
theorem dX11_count_25 : decode cX11_count 25 = .ok (.goto 4, 3) := by decide +kernel
theorem dX11_count_28 : decode cX11_count 28 = .ok (.iconst (-1), 1) := by decide +kernel
theorem dX11_count_29 : decode cX11_count 29 = .ok (.ireturn, 1) := by decide +kernel
set_option maxRecDepth 20000 in
theorem ggX11_sets_X11_isPlaying : GoodIn wsX11_sets wsX11_isPlaying := goodIn_s _ [(6, 4), (5, 1), (10, 1), (25, 16)] rfl (by decide +kernel)
set_option maxRecDepth 20000 in
theorem gX11_sets_X11_isPlaying : GoodIn wsX11_sets (wsV RX11 125 RX11 yX11_isPlaying wsX11_isPlaying) := goodIn_app (goodIn_r _ [2, 3, 4, 5] rfl (by decide +kernel)) ggX11_sets_X11_isPlaying
set_option maxRecDepth 20000 in
theorem ggX11_sets_X11_sideOf : GoodIn wsX11_sets wsX11_sideOf := goodIn_s _ [(14, 3), (25, 20)] rfl (by decide +kernel)
set_option maxRecDepth 20000 in
theorem gX11_sets_X11_sideOf : GoodIn wsX11_sets (wsV RX11 129 RX11 yX11_sideOf wsX11_sideOf) := goodIn_app (goodIn_r _ [11, 12, 13, 5] rfl (by decide +kernel)) ggX11_sets_X11_sideOf
theorem dX11_sets_0 : decode cX11_sets 0 = .ok (.aload_n 0, 1) := by decide +kernel
theorem dX11_sets_1 : decode cX11_sets 1 = .ok (.iload_n 1, 1) := by decide +kernel
theorem dX11_sets_2 : decode cX11_sets 2 = .ok (.invokevirtual 125, 3) := by decide +kernel
theorem dX11_sets_5 : decode cX11_sets 5 = .ok (.ifCond .eq 14, 3) := by decide +kernel
theorem dX11_sets_8 : decode cX11_sets 8 = .ok (.aload_n 0, 1) := by decide +kernel
theorem dX11_sets_9 : decode cX11_sets 9 = .ok (.iload_n 1, 1) := by decide +kernel
theorem dX11_sets_10 : decode cX11_sets 10 = .ok (.invokevirtual 129, 3) := by decide +kernel
theorem dX11_sets_13 : decode cX11_sets 13 = .ok (.getfield 133, 3) := by decide +kernel
theorem dX11_sets_16 : decode cX11_sets 16 = .ok (.goto 4, 3) := by decide +kernel
theorem dX11_sets_19 : decode cX11_sets 19 = .ok (.iconst (-1), 1) := by decide +kernel
theorem dX11_sets_20 : decode cX11_sets 20 = .ok (.ireturn, 1) := by decide +kernel
set_option maxRecDepth 20000 in
theorem ggX11_set_X11_isPlaying : GoodIn wsX11_set wsX11_isPlaying := goodIn_s _ [(8, 4), (7, 1), (12, 1), (33, 16)] rfl (by decide +kernel)
set_option maxRecDepth 20000 in
theorem gX11_set_X11_isPlaying : GoodIn wsX11_set (wsV RX11 125 RX11 yX11_isPlaying wsX11_isPlaying) := goodIn_app (goodIn_r _ [4, 5, 6, 7] rfl (by decide +kernel)) ggX11_set_X11_isPlaying
set_option maxRecDepth 20000 in
theorem ggX11_set_X11_sideOf : GoodIn wsX11_set wsX11_sideOf := goodIn_s _ [(16, 3), (33, 20)] rfl (by decide +kernel)
set_option maxRecDepth 20000 in
theorem gX11_set_X11_sideOf : GoodIn wsX11_set (wsV RX11 129 RX11 yX11_sideOf wsX11_sideOf) := goodIn_app (goodIn_r _ [13, 14, 15, 7] rfl (by decide +kernel)) ggX11_set_X11_sideOf
set_option maxRecDepth 20000 in
theorem ggX11_set_X7_hasSet : GoodIn wsX11_set wsX7_hasSet := goodIn_s _ [(23, 10)] rfl (by decide +kernel)
set_option maxRecDepth 20000 in
theorem gX11_set_X7_hasSet : GoodIn wsX11_set (wsV RX11 138 RX7 yX7_hasSet wsX7_hasSet) := goodIn_app (goodIn_r _ [19, 20, 21, 22] rfl (by decide +kernel)) ggX11_set_X7_hasSet
theorem dX11_set_0 : decode cX11_set 0 = .ok (.aload_n 0, 1) := by decide +kernel
theorem dX11_set_1 : decode cX11_set 1 = .ok (.iload_n 1, 1) := by decide +kernel
theorem dX11_set_2 : decode cX11_set 2 = .ok (.invokevirtual 125, 3) := by decide +kernel
theorem dX11_set_5 : decode cX11_set 5 = .ok (.ifCond .eq 15, 3) := by decide +kernel
theorem dX11_set_8 : decode cX11_set 8 = .ok (.aload_n 0, 1) := by decide +kernel
theorem dX11_set_9 : decode cX11_set 9 = .ok (.iload_n 1, 1) := by decide +kernel
theorem dX11_set_10 : decode cX11_set 10 = .ok (.invokevirtual 129, 3) := by decide +kernel
theorem dX11_set_13 : decode cX11_set 13 = .ok (.iload_n 2, 1) := by decide +kernel
theorem dX11_set_14 : decode cX11_set 14 = .ok (.invokevirtual 138, 3) := by decide +kernel
theorem dX11_set_17 : decode cX11_set 17 = .ok (.ifCond .ne 5, 3) := by decide +kernel
theorem dX11_set_20 : decode cX11_set 20 = .ok (.iconst (-1), 1) := by decide +kernel
theorem dX11_set_21 : decode cX11_set 21 = .ok (.ireturn, 1) := by decide +kernel
theorem dX11_set_22 : decode cX11_set 22 = .ok (.aload_n 0, 1) := by decide +kernel
theorem dX11_set_23 : decode cX11_set 23 = .ok (.iload_n 1, 1) := by decide +kernel
theorem dX11_set_24 : decode cX11_set 24 = .ok (.invokevirtual 129, 3) := by decide +kernel
theorem dX11_set_27 : decode cX11_set 27 = .ok (.astore 4, 2) := by decide +kernel
theorem dX11_set_29 : decode cX11_set 29 = .ok (.iload_n 3, 1) := by decide +kernel
theorem dX11_set_30 : decode cX11_set 30 = .ok (.tableswitch 50 0 2 #[26, 34, 42], 26) := by decide +kernel
theorem dX11_set_56 : decode cX11_set 56 = .ok (.aload 4, 2) := by decide +kernel
theorem dX11_set_58 : decode cX11_set 58 = .ok (.getfield 141, 3) := by decide +kernel
theorem dX11_set_61 : decode cX11_set 61 = .ok (.iload_n 2, 1) := by decide +kernel
theorem dX11_set_62 : decode cX11_set 62 = .ok (.iaload, 1) := by decide +kernel
theorem dX11_set_63 : decode cX11_set 63 = .ok (.ireturn, 1) := by decide +kernel
theorem dX11_set_64 : decode cX11_set 64 = .ok (.aload 4, 2) := by decide +kernel
theorem dX11_set_66 : decode cX11_set 66 = .ok (.getfield 144, 3) := by decide +kernel
theorem dX11_set_69 : decode cX11_set 69 = .ok (.iload_n 2, 1) := by decide +kernel
theorem dX11_set_70 : decode cX11_set 70 = .ok (.iaload, 1) := by decide +kernel
theorem dX11_set_71 : decode cX11_set 71 = .ok (.ireturn, 1) := by decide +kernel
theorem dX11_set_72 : decode cX11_set 72 = .ok (.aload 4, 2) := by decide +kernel
theorem dX11_set_74 : decode cX11_set 74 = .ok (.getfield 147, 3) := by decide +kernel
theorem dX11_set_77 : decode cX11_set 77 = .ok (.iload_n 2, 1) := by decide +kernel
theorem dX11_set_78 : decode cX11_set 78 = .ok (.iaload, 1) := by decide +kernel
theorem dX11_set_79 : decode cX11_set 79 = .ok (.ireturn, 1) := by decide +kernel
theorem dX11_set_80 : decode cX11_set 80 = .ok (.iconst (-1), 1) := by decide +kernel
theorem dX11_set_81 : decode cX11_set 81 = .ok (.ireturn, 1) := by decide +kernel
set_option maxRecDepth 20000 in
theorem ggX11_plans_X11_isPlaying : GoodIn wsX11_plans wsX11_isPlaying := goodIn_s _ [(5, 4), (4, 1), (9, 1), (23, 16)] rfl (by decide +kernel)
set_option maxRecDepth 20000 in
theorem gX11_plans_X11_isPlaying : GoodIn wsX11_plans (wsV RX11 125 RX11 yX11_isPlaying wsX11_isPlaying) := goodIn_app (goodIn_r _ [1, 2, 3, 4] rfl (by decide +kernel)) ggX11_plans_X11_isPlaying
set_option maxRecDepth 20000 in
theorem ggX11_plans_X11_sideOf : GoodIn wsX11_plans wsX11_sideOf := goodIn_s _ [(13, 3), (23, 20)] rfl (by decide +kernel)
set_option maxRecDepth 20000 in
theorem gX11_plans_X11_sideOf : GoodIn wsX11_plans (wsV RX11 129 RX11 yX11_sideOf wsX11_sideOf) := goodIn_app (goodIn_r _ [10, 11, 12, 4] rfl (by decide +kernel)) ggX11_plans_X11_sideOf
set_option maxRecDepth 20000 in
theorem ggX11_plans_X7_countPlans : GoodIn wsX11_plans wsX7_countPlans := goodIn_s _ [(20, 3), (43, 8)] rfl (by decide +kernel)
set_option maxRecDepth 20000 in
theorem gX11_plans_X7_countPlans : GoodIn wsX11_plans (wsV RX11 150 RX7 yX7_countPlans wsX7_countPlans) := goodIn_app (goodIn_r _ [16, 17, 18, 19] rfl (by decide +kernel)) ggX11_plans_X7_countPlans
theorem dX11_plans_0 : decode cX11_plans 0 = .ok (.aload_n 0, 1) := by decide +kernel
theorem dX11_plans_1 : decode cX11_plans 1 = .ok (.iload_n 1, 1) := by decide +kernel
theorem dX11_plans_2 : decode cX11_plans 2 = .ok (.invokevirtual 125, 3) := by decide +kernel
theorem dX11_plans_5 : decode cX11_plans 5 = .ok (.ifCond .eq 14, 3) := by decide +kernel
theorem dX11_plans_8 : decode cX11_plans 8 = .ok (.aload_n 0, 1) := by decide +kernel
theorem dX11_plans_9 : decode cX11_plans 9 = .ok (.iload_n 1, 1) := by decide +kernel
theorem dX11_plans_10 : decode cX11_plans 10 = .ok (.invokevirtual 129, 3) := by decide +kernel
theorem dX11_plans_13 : decode cX11_plans 13 = .ok (.invokevirtual 150, 3) := by decide +kernel
theorem dX11_plans_16 : decode cX11_plans 16 = .ok (.goto 4, 3) := by decide +kernel
theorem dX11_plans_19 : decode cX11_plans 19 = .ok (.iconst (-1), 1) := by decide +kernel
theorem dX11_plans_20 : decode cX11_plans 20 = .ok (.ireturn, 1) := by decide +kernel
theorem dX11_tell_0 : decode cX11_tell 0 = .ok (.aload_n 0, 1) := by decide +kernel
theorem dX11_tell_1 : decode cX11_tell 1 = .ok (.iload_n 1, 1) := by decide +kernel
theorem dX11_tell_2 : decode cX11_tell 2 = .ok (.invokevirtual 125, 3) := by decide +kernel
theorem dX11_tell_5 : decode cX11_tell 5 = .ok (.ifCond .eq 16, 3) := by decide +kernel
theorem dX11_tell_8 : decode cX11_tell 8 = .ok (.aload_n 0, 1) := by decide +kernel
theorem dX11_tell_9 : decode cX11_tell 9 = .ok (.iload_n 1, 1) := by decide +kernel
theorem dX11_tell_10 : decode cX11_tell 10 = .ok (.invokevirtual 129, 3) := by decide +kernel
theorem dX11_tell_13 : decode cX11_tell 13 = .ok (.iload_n 2, 1) := by decide +kernel
theorem dX11_tell_14 : decode cX11_tell 14 = .ok (.iload_n 3, 1) := by decide +kernel
theorem dX11_tell_15 : decode cX11_tell 15 = .ok (.invokevirtual 153, 3) := by decide +kernel
theorem dX11_tell_18 : decode cX11_tell 18 = .ok (.ifCond .ne 13, 3) := by decide +kernel
theorem dX11_tell_21 : decode cX11_tell 21 = .ok (.new 157, 3) := by decide +kernel
theorem dX11_tell_24 : decode cX11_tell 24 = .ok (.dup, 1) := by decide +kernel
theorem dX11_tell_25 : decode cX11_tell 25 = .ok (.ldc 159, 2) := by decide +kernel
theorem dX11_tell_27 : decode cX11_tell 27 = .ok (.invokespecial 161, 3) := by decide +kernel
theorem dX11_tell_30 : decode cX11_tell 30 = .ok (.athrow, 1) := by decide +kernel
theorem dX11_tell_31 : decode cX11_tell 31 = .ok (.iload 5, 2) := by decide +kernel
theorem dX11_tell_33 : decode cX11_tell 33 = .ok (.iconst 1, 1) := by decide +kernel
theorem dX11_tell_34 : decode cX11_tell 34 = .ok (.if_icmp .lt 23, 3) := by decide +kernel
theorem dX11_tell_37 : decode cX11_tell 37 = .ok (.iload 5, 2) := by decide +kernel
theorem dX11_tell_39 : decode cX11_tell 39 = .ok (.sipush 9999, 3) := by decide +kernel
theorem dX11_tell_42 : decode cX11_tell 42 = .ok (.if_icmp .gt 15, 3) := by decide +kernel
theorem dX11_tell_45 : decode cX11_tell 45 = .ok (.iload 4, 2) := by decide +kernel
theorem dX11_tell_47 : decode cX11_tell 47 = .ok (.ifCond .lt 10, 3) := by decide +kernel
theorem dX11_tell_50 : decode cX11_tell 50 = .ok (.iload 4, 2) := by decide +kernel
theorem dX11_tell_52 : decode cX11_tell 52 = .ok (.iload 5, 2) := by decide +kernel
theorem dX11_tell_54 : decode cX11_tell 54 = .ok (.if_icmp .le 13, 3) := by decide +kernel
theorem dX11_tell_57 : decode cX11_tell 57 = .ok (.new 164, 3) := by decide +kernel
theorem dX11_tell_60 : decode cX11_tell 60 = .ok (.dup, 1) := by decide +kernel
theorem dX11_tell_61 : decode cX11_tell 61 = .ok (.ldc 166, 2) := by decide +kernel
theorem dX11_tell_63 : decode cX11_tell 63 = .ok (.invokespecial 168, 3) := by decide +kernel
theorem dX11_tell_66 : decode cX11_tell 66 = .ok (.athrow, 1) := by decide +kernel
theorem dX11_tell_67 : decode cX11_tell 67 = .ok (.aload_n 0, 1) := by decide +kernel
theorem dX11_tell_68 : decode cX11_tell 68 = .ok (.getfield 33, 3) := by decide +kernel
theorem dX11_tell_71 : decode cX11_tell 71 = .ok (.iload_n 1, 1) := by decide +kernel
theorem dX11_tell_72 : decode cX11_tell 72 = .ok (.iconst 1, 1) := by decide +kernel
theorem dX11_tell_73 : decode cX11_tell 73 = .ok (.isub, 1) := by decide +kernel
theorem dX11_tell_74 : decode cX11_tell 74 = .ok (.aaload, 1) := by decide +kernel
theorem dX11_tell_75 : decode cX11_tell 75 = .ok (.iload_n 2, 1) := by decide +kernel
theorem dX11_tell_76 : decode cX11_tell 76 = .ok (.iload_n 3, 1) := by decide +kernel
theorem dX11_tell_77 : decode cX11_tell 77 = .ok (.iload 4, 2) := by decide +kernel
theorem dX11_tell_79 : decode cX11_tell 79 = .ok (.iload 5, 2) := by decide +kernel
theorem dX11_tell_81 : decode cX11_tell 81 = .ok (.invokevirtual 169, 3) := by decide +kernel
theorem dX11_tell_84 : decode cX11_tell 84 = .ok (.return_, 1) := by decide +kernel
set_option maxRecDepth 20000 in
theorem ggX11_good_X11_isPlaying : GoodIn wsX11_good wsX11_isPlaying := goodIn_s _ [(5, 4), (4, 1), (9, 1), (46, 16)] rfl (by decide +kernel)
set_option maxRecDepth 20000 in
theorem gX11_good_X11_isPlaying : GoodIn wsX11_good (wsV RX11 125 RX11 yX11_isPlaying wsX11_isPlaying) := goodIn_app (goodIn_r _ [1, 2, 3, 4] rfl (by decide +kernel)) ggX11_good_X11_isPlaying
set_option maxRecDepth 20000 in
theorem ggX11_good_X11_isGood : GoodIn wsX11_good wsX11_isGood := goodIn_s _ [(13, 17), (4, 1), (30, 47)] rfl (by decide +kernel)
set_option maxRecDepth 20000 in
theorem gX11_good_X11_isGood : GoodIn wsX11_good (wsV RX11 173 RX11 yX11_isGood wsX11_isGood) := goodIn_app (goodIn_r _ [10, 11, 12, 4] rfl (by decide +kernel)) ggX11_good_X11_isGood
theorem dX11_good_0 : decode cX11_good 0 = .ok (.aload_n 0, 1) := by decide +kernel
theorem dX11_good_1 : decode cX11_good 1 = .ok (.iload_n 1, 1) := by decide +kernel
theorem dX11_good_2 : decode cX11_good 2 = .ok (.invokevirtual 125, 3) := by decide +kernel
theorem dX11_good_5 : decode cX11_good 5 = .ok (.ifCond .ne 5, 3) := by decide +kernel
theorem dX11_good_8 : decode cX11_good 8 = .ok (.iconst (-1), 1) := by decide +kernel
theorem dX11_good_9 : decode cX11_good 9 = .ok (.ireturn, 1) := by decide +kernel
theorem dX11_good_10 : decode cX11_good 10 = .ok (.aload_n 0, 1) := by decide +kernel
theorem dX11_good_11 : decode cX11_good 11 = .ok (.iload_n 1, 1) := by decide +kernel
theorem dX11_good_12 : decode cX11_good 12 = .ok (.iconst 1, 1) := by decide +kernel
theorem dX11_good_13 : decode cX11_good 13 = .ok (.isub, 1) := by decide +kernel
theorem dX11_good_14 : decode cX11_good 14 = .ok (.invokevirtual 173, 3) := by decide +kernel
theorem dX11_good_17 : decode cX11_good 17 = .ok (.ifCond .eq 7, 3) := by decide +kernel
theorem dX11_good_20 : decode cX11_good 20 = .ok (.iconst 1, 1) := by decide +kernel
theorem dX11_good_21 : decode cX11_good 21 = .ok (.goto 4, 3) := by decide +kernel
theorem dX11_good_24 : decode cX11_good 24 = .ok (.iconst 0, 1) := by decide +kernel
theorem dX11_good_25 : decode cX11_good 25 = .ok (.ireturn, 1) := by decide +kernel
theorem dX11_solve_0 : decode cX11_solve 0 = .ok (.aload_n 0, 1) := by decide +kernel
theorem dX11_solve_1 : decode cX11_solve 1 = .ok (.getfield 87, 3) := by decide +kernel
theorem dX11_solve_4 : decode cX11_solve 4 = .ok (.ifCond .ne 13, 3) := by decide +kernel
theorem dX11_solve_7 : decode cX11_solve 7 = .ok (.new 176, 3) := by decide +kernel
theorem dX11_solve_10 : decode cX11_solve 10 = .ok (.dup, 1) := by decide +kernel
theorem dX11_solve_11 : decode cX11_solve 11 = .ok (.ldc 178, 2) := by decide +kernel
theorem dX11_solve_13 : decode cX11_solve 13 = .ok (.invokespecial 180, 3) := by decide +kernel
theorem dX11_solve_16 : decode cX11_solve 16 = .ok (.athrow, 1) := by decide +kernel
theorem dX11_solve_17 : decode cX11_solve 17 = .ok (.aload_n 0, 1) := by decide +kernel
theorem dX11_solve_18 : decode cX11_solve 18 = .ok (.getfield 27, 3) := by decide +kernel
theorem dX11_solve_21 : decode cX11_solve 21 = .ok (.aload_n 0, 1) := by decide +kernel
theorem dX11_solve_22 : decode cX11_solve 22 = .ok (.getfield 83, 3) := by decide +kernel
theorem dX11_solve_25 : decode cX11_solve 25 = .ok (.invokevirtual 181, 3) := by decide +kernel
theorem dX11_solve_28 : decode cX11_solve 28 = .ok (.aload_n 0, 1) := by decide +kernel
theorem dX11_solve_29 : decode cX11_solve 29 = .ok (.getfield 27, 3) := by decide +kernel
theorem dX11_solve_32 : decode cX11_solve 32 = .ok (.aload_n 0, 1) := by decide +kernel
theorem dX11_solve_33 : decode cX11_solve 33 = .ok (.getfield 43, 3) := by decide +kernel
theorem dX11_solve_36 : decode cX11_solve 36 = .ok (.iconst 0, 1) := by decide +kernel
theorem dX11_solve_37 : decode cX11_solve 37 = .ok (.aaload, 1) := by decide +kernel
theorem dX11_solve_38 : decode cX11_solve 38 = .ok (.aload_n 0, 1) := by decide +kernel
theorem dX11_solve_39 : decode cX11_solve 39 = .ok (.getfield 43, 3) := by decide +kernel
theorem dX11_solve_42 : decode cX11_solve 42 = .ok (.iconst 1, 1) := by decide +kernel
theorem dX11_solve_43 : decode cX11_solve 43 = .ok (.aaload, 1) := by decide +kernel
theorem dX11_solve_44 : decode cX11_solve 44 = .ok (.invokevirtual 185, 3) := by decide +kernel
theorem dX11_solve_47 : decode cX11_solve 47 = .ok (.aload_n 0, 1) := by decide +kernel
theorem dX11_solve_48 : decode cX11_solve 48 = .ok (.getfield 59, 3) := by decide +kernel
theorem dX11_solve_51 : decode cX11_solve 51 = .ok (.iconst 0, 1) := by decide +kernel
theorem dX11_solve_52 : decode cX11_solve 52 = .ok (.aaload, 1) := by decide +kernel
theorem dX11_solve_53 : decode cX11_solve 53 = .ok (.aload_n 0, 1) := by decide +kernel
theorem dX11_solve_54 : decode cX11_solve 54 = .ok (.getfield 27, 3) := by decide +kernel
theorem dX11_solve_57 : decode cX11_solve 57 = .ok (.invokevirtual 189, 3) := by decide +kernel
theorem dX11_solve_60 : decode cX11_solve 60 = .ok (.aload_n 0, 1) := by decide +kernel
theorem dX11_solve_61 : decode cX11_solve 61 = .ok (.getfield 43, 3) := by decide +kernel
theorem dX11_solve_64 : decode cX11_solve 64 = .ok (.iconst 0, 1) := by decide +kernel
theorem dX11_solve_65 : decode cX11_solve 65 = .ok (.aaload, 1) := by decide +kernel
theorem dX11_solve_66 : decode cX11_solve 66 = .ok (.getfield 193, 3) := by decide +kernel
theorem dX11_solve_69 : decode cX11_solve 69 = .ok (.iconst 0, 1) := by decide +kernel
theorem dX11_solve_70 : decode cX11_solve 70 = .ok (.aaload, 1) := by decide +kernel
theorem dX11_solve_71 : decode cX11_solve 71 = .ok (.aload_n 0, 1) := by decide +kernel
theorem dX11_solve_72 : decode cX11_solve 72 = .ok (.getfield 83, 3) := by decide +kernel
theorem dX11_solve_75 : decode cX11_solve 75 = .ok (.getfield 197, 3) := by decide +kernel
theorem dX11_solve_78 : decode cX11_solve 78 = .ok (.invokevirtual 201, 3) := by decide +kernel
theorem dX11_solve_81 : decode cX11_solve 81 = .ok (.return_, 1) := by decide +kernel
theorem dX11_expect_0 : decode cX11_expect 0 = .ok (.aload_n 0, 1) := by decide +kernel
theorem dX11_expect_1 : decode cX11_expect 1 = .ok (.getfield 87, 3) := by decide +kernel
theorem dX11_expect_4 : decode cX11_expect 4 = .ok (.ifCond .eq 19, 3) := by decide +kernel
theorem dX11_expect_7 : decode cX11_expect 7 = .ok (.aload_n 0, 1) := by decide +kernel
theorem dX11_expect_8 : decode cX11_expect 8 = .ok (.iconst 0, 1) := by decide +kernel
theorem dX11_expect_9 : decode cX11_expect 9 = .ok (.invokevirtual 173, 3) := by decide +kernel
theorem dX11_expect_12 : decode cX11_expect 12 = .ok (.ifCond .eq 11, 3) := by decide +kernel
theorem dX11_expect_15 : decode cX11_expect 15 = .ok (.aload_n 0, 1) := by decide +kernel
theorem dX11_expect_16 : decode cX11_expect 16 = .ok (.iconst 1, 1) := by decide +kernel
theorem dX11_expect_17 : decode cX11_expect 17 = .ok (.invokevirtual 173, 3) := by decide +kernel
theorem dX11_expect_20 : decode cX11_expect 20 = .ok (.ifCond .ne 13, 3) := by decide +kernel
theorem dX11_expect_23 : decode cX11_expect 23 = .ok (.new 176, 3) := by decide +kernel
theorem dX11_expect_26 : decode cX11_expect 26 = .ok (.dup, 1) := by decide +kernel
theorem dX11_expect_27 : decode cX11_expect 27 = .ok (.ldc 205, 2) := by decide +kernel
theorem dX11_expect_29 : decode cX11_expect 29 = .ok (.invokespecial 180, 3) := by decide +kernel
theorem dX11_expect_32 : decode cX11_expect 32 = .ok (.athrow, 1) := by decide +kernel
theorem dX11_expect_33 : decode cX11_expect 33 = .ok (.aload_n 0, 1) := by decide +kernel
theorem dX11_expect_34 : decode cX11_expect 34 = .ok (.iconst 0, 1) := by decide +kernel
theorem dX11_expect_35 : decode cX11_expect 35 = .ok (.invokevirtual 207, 3) := by decide +kernel
theorem dX11_expect_38 : decode cX11_expect 38 = .ok (.aload_n 0, 1) := by decide +kernel
theorem dX11_expect_39 : decode cX11_expect 39 = .ok (.iconst 1, 1) := by decide +kernel
theorem dX11_expect_40 : decode cX11_expect 40 = .ok (.invokevirtual 207, 3) := by decide +kernel
theorem dX11_expect_43 : decode cX11_expect 43 = .ok (.aload_n 0, 1) := by decide +kernel
theorem dX11_expect_44 : decode cX11_expect 44 = .ok (.getfield 53, 3) := by decide +kernel
theorem dX11_expect_47 : decode cX11_expect 47 = .ok (.aload_n 0, 1) := by decide +kernel
theorem dX11_expect_48 : decode cX11_expect 48 = .ok (.getfield 83, 3) := by decide +kernel
theorem dX11_expect_51 : decode cX11_expect 51 = .ok (.aload_n 0, 1) := by decide +kernel
theorem dX11_expect_52 : decode cX11_expect 52 = .ok (.getfield 39, 3) := by decide +kernel
theorem dX11_expect_55 : decode cX11_expect 55 = .ok (.iconst 0, 1) := by decide +kernel
theorem dX11_expect_56 : decode cX11_expect 56 = .ok (.aaload, 1) := by decide +kernel
theorem dX11_expect_57 : decode cX11_expect 57 = .ok (.aload_n 0, 1) := by decide +kernel
theorem dX11_expect_58 : decode cX11_expect 58 = .ok (.getfield 39, 3) := by decide +kernel
theorem dX11_expect_61 : decode cX11_expect 61 = .ok (.iconst 1, 1) := by decide +kernel
theorem dX11_expect_62 : decode cX11_expect 62 = .ok (.aaload, 1) := by decide +kernel
theorem dX11_expect_63 : decode cX11_expect 63 = .ok (.aload_n 0, 1) := by decide +kernel
theorem dX11_expect_64 : decode cX11_expect 64 = .ok (.getfield 73, 3) := by decide +kernel
theorem dX11_expect_67 : decode cX11_expect 67 = .ok (.invokevirtual 210, 3) := by decide +kernel
theorem dX11_expect_70 : decode cX11_expect 70 = .ok (.aload_n 0, 1) := by decide +kernel
theorem dX11_expect_71 : decode cX11_expect 71 = .ok (.getfield 77, 3) := by decide +kernel
theorem dX11_expect_74 : decode cX11_expect 74 = .ok (.aload_n 0, 1) := by decide +kernel
theorem dX11_expect_75 : decode cX11_expect 75 = .ok (.getfield 39, 3) := by decide +kernel
theorem dX11_expect_78 : decode cX11_expect 78 = .ok (.iconst 0, 1) := by decide +kernel
theorem dX11_expect_79 : decode cX11_expect 79 = .ok (.aaload, 1) := by decide +kernel
theorem dX11_expect_80 : decode cX11_expect 80 = .ok (.getfield 193, 3) := by decide +kernel
theorem dX11_expect_83 : decode cX11_expect 83 = .ok (.iconst 0, 1) := by decide +kernel
theorem dX11_expect_84 : decode cX11_expect 84 = .ok (.aaload, 1) := by decide +kernel
theorem dX11_expect_85 : decode cX11_expect 85 = .ok (.aload_n 0, 1) := by decide +kernel
theorem dX11_expect_86 : decode cX11_expect 86 = .ok (.getfield 39, 3) := by decide +kernel
theorem dX11_expect_89 : decode cX11_expect 89 = .ok (.iconst 1, 1) := by decide +kernel
theorem dX11_expect_90 : decode cX11_expect 90 = .ok (.aaload, 1) := by decide +kernel
theorem dX11_expect_91 : decode cX11_expect 91 = .ok (.getfield 193, 3) := by decide +kernel
theorem dX11_expect_94 : decode cX11_expect 94 = .ok (.iconst 0, 1) := by decide +kernel
theorem dX11_expect_95 : decode cX11_expect 95 = .ok (.aaload, 1) := by decide +kernel
theorem dX11_expect_96 : decode cX11_expect 96 = .ok (.invokevirtual 214, 3) := by decide +kernel
theorem dX11_expect_99 : decode cX11_expect 99 = .ok (.aload_n 0, 1) := by decide +kernel
theorem dX11_expect_100 : decode cX11_expect 100 = .ok (.getfield 59, 3) := by decide +kernel
theorem dX11_expect_103 : decode cX11_expect 103 = .ok (.iconst 1, 1) := by decide +kernel
theorem dX11_expect_104 : decode cX11_expect 104 = .ok (.aaload, 1) := by decide +kernel
theorem dX11_expect_105 : decode cX11_expect 105 = .ok (.aload_n 0, 1) := by decide +kernel
theorem dX11_expect_106 : decode cX11_expect 106 = .ok (.getfield 73, 3) := by decide +kernel
theorem dX11_expect_109 : decode cX11_expect 109 = .ok (.aload_n 0, 1) := by decide +kernel
theorem dX11_expect_110 : decode cX11_expect 110 = .ok (.getfield 77, 3) := by decide +kernel
theorem dX11_expect_113 : decode cX11_expect 113 = .ok (.aload_n 0, 1) := by decide +kernel
theorem dX11_expect_114 : decode cX11_expect 114 = .ok (.getfield 83, 3) := by decide +kernel
theorem dX11_expect_117 : decode cX11_expect 117 = .ok (.getfield 197, 3) := by decide +kernel
theorem dX11_expect_120 : decode cX11_expect 120 = .ok (.invokevirtual 201, 3) := by decide +kernel
theorem dX11_expect_123 : decode cX11_expect 123 = .ok (.return_, 1) := by decide +kernel
theorem dX11_judge_0 : decode cX11_judge 0 = .ok (.iload_n 1, 1) := by decide +kernel
theorem dX11_judge_1 : decode cX11_judge 1 = .ok (.invokestatic 218, 3) := by decide +kernel
theorem dX11_judge_4 : decode cX11_judge 4 = .ok (.ifCond .ne 13, 3) := by decide +kernel
theorem dX11_judge_7 : decode cX11_judge 7 = .ok (.new 164, 3) := by decide +kernel
theorem dX11_judge_10 : decode cX11_judge 10 = .ok (.dup, 1) := by decide +kernel
theorem dX11_judge_11 : decode cX11_judge 11 = .ok (.ldc 221, 2) := by decide +kernel
theorem dX11_judge_13 : decode cX11_judge 13 = .ok (.invokespecial 168, 3) := by decide +kernel
theorem dX11_judge_16 : decode cX11_judge 16 = .ok (.athrow, 1) := by decide +kernel
theorem dX11_judge_17 : decode cX11_judge 17 = .ok (.iload_n 1, 1) := by decide +kernel
theorem dX11_judge_18 : decode cX11_judge 18 = .ok (.iconst 1, 1) := by decide +kernel
theorem dX11_judge_19 : decode cX11_judge 19 = .ok (.isub, 1) := by decide +kernel
theorem dX11_judge_20 : decode cX11_judge 20 = .ok (.istore_n 2, 1) := by decide +kernel
theorem dX11_judge_21 : decode cX11_judge 21 = .ok (.aload_n 0, 1) := by decide +kernel
theorem dX11_judge_22 : decode cX11_judge 22 = .ok (.getfield 87, 3) := by decide +kernel
theorem dX11_judge_25 : decode cX11_judge 25 = .ok (.ifCond .eq 11, 3) := by decide +kernel
theorem dX11_judge_28 : decode cX11_judge 28 = .ok (.aload_n 0, 1) := by decide +kernel
theorem dX11_judge_29 : decode cX11_judge 29 = .ok (.iload_n 2, 1) := by decide +kernel
theorem dX11_judge_30 : decode cX11_judge 30 = .ok (.invokevirtual 173, 3) := by decide +kernel
theorem dX11_judge_33 : decode cX11_judge 33 = .ok (.ifCond .ne 13, 3) := by decide +kernel
theorem dX11_judge_36 : decode cX11_judge 36 = .ok (.new 176, 3) := by decide +kernel
theorem dX11_judge_39 : decode cX11_judge 39 = .ok (.dup, 1) := by decide +kernel
theorem dX11_judge_40 : decode cX11_judge 40 = .ok (.ldc 223, 2) := by decide +kernel
theorem dX11_judge_42 : decode cX11_judge 42 = .ok (.invokespecial 180, 3) := by decide +kernel
theorem dX11_judge_45 : decode cX11_judge 45 = .ok (.athrow, 1) := by decide +kernel
theorem dX11_judge_46 : decode cX11_judge 46 = .ok (.aload_n 0, 1) := by decide +kernel
theorem dX11_judge_47 : decode cX11_judge 47 = .ok (.iload_n 2, 1) := by decide +kernel
theorem dX11_judge_48 : decode cX11_judge 48 = .ok (.invokevirtual 207, 3) := by decide +kernel
theorem dX11_judge_51 : decode cX11_judge 51 = .ok (.aload_n 0, 1) := by decide +kernel
theorem dX11_judge_52 : decode cX11_judge 52 = .ok (.getfield 48, 3) := by decide +kernel
theorem dX11_judge_55 : decode cX11_judge 55 = .ok (.iload_n 2, 1) := by decide +kernel
theorem dX11_judge_56 : decode cX11_judge 56 = .ok (.aaload, 1) := by decide +kernel
theorem dX11_judge_57 : decode cX11_judge 57 = .ok (.aload_n 0, 1) := by decide +kernel
theorem dX11_judge_58 : decode cX11_judge 58 = .ok (.getfield 83, 3) := by decide +kernel
theorem dX11_judge_61 : decode cX11_judge 61 = .ok (.iload_n 2, 1) := by decide +kernel
theorem dX11_judge_62 : decode cX11_judge 62 = .ok (.invokestatic 225, 3) := by decide +kernel
theorem dX11_judge_65 : decode cX11_judge 65 = .ok (.aload_n 0, 1) := by decide +kernel
theorem dX11_judge_66 : decode cX11_judge 66 = .ok (.getfield 39, 3) := by decide +kernel
theorem dX11_judge_69 : decode cX11_judge 69 = .ok (.iload_n 2, 1) := by decide +kernel
theorem dX11_judge_70 : decode cX11_judge 70 = .ok (.aaload, 1) := by decide +kernel
theorem dX11_judge_71 : decode cX11_judge 71 = .ok (.invokevirtual 229, 3) := by decide +kernel
theorem dX11_judge_74 : decode cX11_judge 74 = .ok (.aload_n 0, 1) := by decide +kernel
theorem dX11_judge_75 : decode cX11_judge 75 = .ok (.getfield 59, 3) := by decide +kernel
theorem dX11_judge_78 : decode cX11_judge 78 = .ok (.iconst 2, 1) := by decide +kernel
theorem dX11_judge_79 : decode cX11_judge 79 = .ok (.iload_n 2, 1) := by decide +kernel
theorem dX11_judge_80 : decode cX11_judge 80 = .ok (.iadd, 1) := by decide +kernel
theorem dX11_judge_81 : decode cX11_judge 81 = .ok (.aaload, 1) := by decide +kernel
theorem dX11_judge_82 : decode cX11_judge 82 = .ok (.aload_n 0, 1) := by decide +kernel
theorem dX11_judge_83 : decode cX11_judge 83 = .ok (.getfield 48, 3) := by decide +kernel
theorem dX11_judge_86 : decode cX11_judge 86 = .ok (.iload_n 2, 1) := by decide +kernel
theorem dX11_judge_87 : decode cX11_judge 87 = .ok (.aaload, 1) := by decide +kernel
theorem dX11_judge_88 : decode cX11_judge 88 = .ok (.invokevirtual 232, 3) := by decide +kernel
theorem dX11_judge_91 : decode cX11_judge 91 = .ok (.aload_n 0, 1) := by decide +kernel
theorem dX11_judge_92 : decode cX11_judge 92 = .ok (.getfield 39, 3) := by decide +kernel
theorem dX11_judge_95 : decode cX11_judge 95 = .ok (.iload_n 2, 1) := by decide +kernel
theorem dX11_judge_96 : decode cX11_judge 96 = .ok (.aaload, 1) := by decide +kernel
theorem dX11_judge_97 : decode cX11_judge 97 = .ok (.getfield 193, 3) := by decide +kernel
theorem dX11_judge_100 : decode cX11_judge 100 = .ok (.iconst 0, 1) := by decide +kernel
theorem dX11_judge_101 : decode cX11_judge 101 = .ok (.aaload, 1) := by decide +kernel
theorem dX11_judge_102 : decode cX11_judge 102 = .ok (.aload_n 0, 1) := by decide +kernel
theorem dX11_judge_103 : decode cX11_judge 103 = .ok (.getfield 83, 3) := by decide +kernel
theorem dX11_judge_106 : decode cX11_judge 106 = .ok (.getfield 197, 3) := by decide +kernel
theorem dX11_judge_109 : decode cX11_judge 109 = .ok (.invokevirtual 201, 3) := by decide +kernel
theorem dX11_judge_112 : decode cX11_judge 112 = .ok (.return_, 1) := by decide +kernel
set_option maxRecDepth 20000 in
theorem ggX11_reply_X11_isPlaying : GoodIn wsX11_reply wsX11_isPlaying := goodIn_s _ [(11, 4), (10, 1), (15, 1), (25, 16)] rfl (by decide +kernel)
set_option maxRecDepth 20000 in
theorem gX11_reply_X11_isPlaying : GoodIn wsX11_reply (wsV RX11 125 RX11 yX11_isPlaying wsX11_isPlaying) := goodIn_app (goodIn_r _ [7, 8, 9, 10] rfl (by decide +kernel)) ggX11_reply_X11_isPlaying
set_option maxRecDepth 20000 in
theorem ggX11_reply_X11_other : GoodIn wsX11_reply wsX11_other := goodIn_r _ [18] rfl (by decide +kernel)
set_option maxRecDepth 20000 in
theorem gX11_reply_X11_other : GoodIn wsX11_reply (va_wsS RX11 225 yX11_other wsX11_other) := goodIn_app (goodIn_r _ [16, 17, 10] rfl (by decide +kernel)) ggX11_reply_X11_other
set_option maxRecDepth 20000 in
theorem ggX11_reply_X7_hasSet : GoodIn wsX11_reply wsX7_hasSet := goodIn_s _ [(23, 2), (56, 8)] rfl (by decide +kernel)
set_option maxRecDepth 20000 in
theorem gX11_reply_X7_hasSet : GoodIn wsX11_reply (wsV RX11 138 RX7 yX7_hasSet wsX7_hasSet) := goodIn_app (goodIn_r _ [19, 20, 21, 22] rfl (by decide +kernel)) ggX11_reply_X7_hasSet
theorem dX11_reply_0 : decode cX11_reply 0 = .ok (.aload_n 0, 1) := by decide +kernel
theorem dX11_reply_1 : decode cX11_reply 1 = .ok (.iload_n 1, 1) := by decide +kernel
