/-- words of a list that stand side by side in the greater one -/
def lb_seg (big : List Cond) : List (Nat × Nat) → List Cond
  | [] => []
  | p :: t => List.take p.2 (List.drop p.1 big) ++ lb_seg big t
theorem lb_seg_mem {big : List Cond} {w : Cond} (ps : List (Nat × Nat)) (h : w ∈ lb_seg big ps) : w ∈ big := by
  induction ps with
  | nil => exact absurd h (by simp [lb_seg])
  | cons p t ih =>
    rcases List.mem_append.mp (show w ∈ List.take p.2 (List.drop p.1 big) ++ lb_seg big t from h) with c | c
    · first | exact List.mem_of_mem_drop (List.mem_of_mem_take c) | exact List.drop_subset _ _ (List.take_subset _ _ c)
    · exact ih c
theorem goodIn_s {big : List Cond} (ws : List Cond) (ps : List (Nat × Nat)) (hp : ws = lb_seg big ps) (h : ws.all goodWord = true) : GoodIn big ws := fun w hw => ⟨lb_seg_mem ps (by rw [← hp]; exact hw), good_of_word (List.all_eq_true.mp h w hw)⟩
theorem dX0_init_0 : decode cX0_init 0 = .ok (.aload_n 0, 1) := by decide +kernel
theorem dX0_init_1 : decode cX0_init 1 = .ok (.invokespecial 1, 3) := by decide +kernel
theorem dX0_init_4 : decode cX0_init 4 = .ok (.aload_n 0, 1) := by decide +kernel
theorem dX0_init_5 : decode cX0_init 5 = .ok (.iconst 0, 1) := by decide +kernel
theorem dX0_init_6 : decode cX0_init 6 = .ok (.putfield 7, 3) := by decide +kernel
theorem dX0_init_9 : decode cX0_init 9 = .ok (.aload_n 0, 1) := by decide +kernel
theorem dX0_init_10 : decode cX0_init 10 = .ok (.iconst 0, 1) := by decide +kernel
theorem dX0_init_11 : decode cX0_init 11 = .ok (.putfield 13, 3) := by decide +kernel
theorem dX0_init_14 : decode cX0_init 14 = .ok (.aload_n 0, 1) := by decide +kernel
theorem dX0_init_15 : decode cX0_init 15 = .ok (.iload_n 1, 1) := by decide +kernel
theorem dX0_init_16 : decode cX0_init 16 = .ok (.newarray .int, 2) := by decide +kernel
theorem dX0_init_18 : decode cX0_init 18 = .ok (.putfield 17, 3) := by decide +kernel
theorem dX0_init_21 : decode cX0_init 21 = .ok (.return_, 1) := by decide +kernel
theorem dX0_put_0 : decode cX0_put 0 = .ok (.lload_n 1, 1) := by decide +kernel
theorem dX0_put_1 : decode cX0_put 1 = .ok (.lconst 0, 1) := by decide +kernel
theorem dX0_put_2 : decode cX0_put 2 = .ok (.lcmp, 1) := by decide +kernel
theorem dX0_put_3 : decode cX0_put 3 = .ok (.ifCond .ge 8, 3) := by decide +kernel
theorem dX0_put_6 : decode cX0_put 6 = .ok (.lload_n 1, 1) := by decide +kernel
theorem dX0_put_7 : decode cX0_put 7 = .ok (.lneg, 1) := by decide +kernel
theorem dX0_put_8 : decode cX0_put 8 = .ok (.goto 4, 3) := by decide +kernel
theorem dX0_put_11 : decode cX0_put 11 = .ok (.lload_n 1, 1) := by decide +kernel
theorem dX0_put_12 : decode cX0_put 12 = .ok (.lstore_n 3, 1) := by decide +kernel
theorem dX0_put_13 : decode cX0_put 13 = .ok (.aload_n 0, 1) := by decide +kernel
theorem dX0_put_14 : decode cX0_put 14 = .ok (.lload_n 1, 1) := by decide +kernel
theorem dX0_put_15 : decode cX0_put 15 = .ok (.lconst 0, 1) := by decide +kernel
theorem dX0_put_16 : decode cX0_put 16 = .ok (.lcmp, 1) := by decide +kernel
theorem dX0_put_17 : decode cX0_put 17 = .ok (.ifCond .ge 7, 3) := by decide +kernel
theorem dX0_put_20 : decode cX0_put 20 = .ok (.iconst 1, 1) := by decide +kernel
theorem dX0_put_21 : decode cX0_put 21 = .ok (.goto 4, 3) := by decide +kernel
theorem dX0_put_24 : decode cX0_put 24 = .ok (.iconst 0, 1) := by decide +kernel
theorem dX0_put_25 : decode cX0_put 25 = .ok (.putfield 13, 3) := by decide +kernel
theorem dX0_put_28 : decode cX0_put 28 = .ok (.aload_n 0, 1) := by decide +kernel
theorem dX0_put_29 : decode cX0_put 29 = .ok (.iconst 0, 1) := by decide +kernel
theorem dX0_put_30 : decode cX0_put 30 = .ok (.putfield 7, 3) := by decide +kernel
theorem dX0_put_33 : decode cX0_put 33 = .ok (.iconst 0, 1) := by decide +kernel
theorem dX0_put_34 : decode cX0_put 34 = .ok (.istore 5, 2) := by decide +kernel
theorem dX0_put_36 : decode cX0_put 36 = .ok (.iload 5, 2) := by decide +kernel
theorem dX0_put_38 : decode cX0_put 38 = .ok (.iconst 2, 1) := by decide +kernel
theorem dX0_put_39 : decode cX0_put 39 = .ok (.if_icmp .ge 47, 3) := by decide +kernel
theorem dX0_put_42 : decode cX0_put 42 = .ok (.iload 5, 2) := by decide +kernel
theorem dX0_put_44 : decode cX0_put 44 = .ok (.aload_n 0, 1) := by decide +kernel
theorem dX0_put_45 : decode cX0_put 45 = .ok (.getfield 17, 3) := by decide +kernel
theorem dX0_put_48 : decode cX0_put 48 = .ok (.arraylength, 1) := by decide +kernel
theorem dX0_put_49 : decode cX0_put 49 = .ok (.if_icmp .ge 37, 3) := by decide +kernel
theorem dX0_put_52 : decode cX0_put 52 = .ok (.lload_n 3, 1) := by decide +kernel
theorem dX0_put_53 : decode cX0_put 53 = .ok (.lconst 0, 1) := by decide +kernel
theorem dX0_put_54 : decode cX0_put 54 = .ok (.lcmp, 1) := by decide +kernel
theorem dX0_put_55 : decode cX0_put 55 = .ok (.ifCond .eq 31, 3) := by decide +kernel
theorem dX0_put_58 : decode cX0_put 58 = .ok (.aload_n 0, 1) := by decide +kernel
theorem dX0_put_59 : decode cX0_put 59 = .ok (.getfield 17, 3) := by decide +kernel
theorem dX0_put_62 : decode cX0_put 62 = .ok (.iload 5, 2) := by decide +kernel
theorem dX0_put_64 : decode cX0_put 64 = .ok (.lload_n 3, 1) := by decide +kernel
theorem dX0_put_65 : decode cX0_put 65 = .ok (.l2i, 1) := by decide +kernel
theorem dX0_put_66 : decode cX0_put 66 = .ok (.iastore, 1) := by decide +kernel
theorem dX0_put_67 : decode cX0_put 67 = .ok (.lload_n 3, 1) := by decide +kernel
theorem dX0_put_68 : decode cX0_put 68 = .ok (.bipush 32, 2) := by decide +kernel
theorem dX0_put_70 : decode cX0_put 70 = .ok (.lushr, 1) := by decide +kernel
theorem dX0_put_71 : decode cX0_put 71 = .ok (.lstore_n 3, 1) := by decide +kernel
theorem dX0_put_72 : decode cX0_put 72 = .ok (.aload_n 0, 1) := by decide +kernel
theorem dX0_put_73 : decode cX0_put 73 = .ok (.iload 5, 2) := by decide +kernel
theorem dX0_put_75 : decode cX0_put 75 = .ok (.iconst 1, 1) := by decide +kernel
theorem dX0_put_76 : decode cX0_put 76 = .ok (.iadd, 1) := by decide +kernel
theorem dX0_put_77 : decode cX0_put 77 = .ok (.putfield 7, 3) := by decide +kernel
theorem dX0_put_80 : decode cX0_put 80 = .ok (.iinc 5 1, 3) := by decide +kernel
theorem dX0_put_83 : decode cX0_put 83 = .ok (.goto (-47), 3) := by decide +kernel
theorem dX0_put_86 : decode cX0_put 86 = .ok (.return_, 1) := by decide +kernel
theorem dX0_copy_0 : decode cX0_copy 0 = .ok (.aload_n 0, 1) := by decide +kernel
theorem dX0_copy_1 : decode cX0_copy 1 = .ok (.aload_n 1, 1) := by decide +kernel
theorem dX0_copy_2 : decode cX0_copy 2 = .ok (.getfield 7, 3) := by decide +kernel
theorem dX0_copy_5 : decode cX0_copy 5 = .ok (.aload_n 0, 1) := by decide +kernel
theorem dX0_copy_6 : decode cX0_copy 6 = .ok (.getfield 17, 3) := by decide +kernel
theorem dX0_copy_9 : decode cX0_copy 9 = .ok (.arraylength, 1) := by decide +kernel
theorem dX0_copy_10 : decode cX0_copy 10 = .ok (.invokestatic 21, 3) := by decide +kernel
theorem dX0_copy_13 : decode cX0_copy 13 = .ok (.putfield 7, 3) := by decide +kernel
theorem dX0_copy_16 : decode cX0_copy 16 = .ok (.aload_n 1, 1) := by decide +kernel
theorem dX0_copy_17 : decode cX0_copy 17 = .ok (.getfield 17, 3) := by decide +kernel
theorem dX0_copy_20 : decode cX0_copy 20 = .ok (.iconst 0, 1) := by decide +kernel
theorem dX0_copy_21 : decode cX0_copy 21 = .ok (.aload_n 0, 1) := by decide +kernel
theorem dX0_copy_22 : decode cX0_copy 22 = .ok (.getfield 17, 3) := by decide +kernel
theorem dX0_copy_25 : decode cX0_copy 25 = .ok (.iconst 0, 1) := by decide +kernel
theorem dX0_copy_26 : decode cX0_copy 26 = .ok (.aload_n 0, 1) := by decide +kernel
theorem dX0_copy_27 : decode cX0_copy 27 = .ok (.getfield 7, 3) := by decide +kernel
theorem dX0_copy_30 : decode cX0_copy 30 = .ok (.invokestatic 27, 3) := by decide +kernel
theorem dX0_copy_33 : decode cX0_copy 33 = .ok (.aload_n 0, 1) := by decide +kernel
theorem dX0_copy_34 : decode cX0_copy 34 = .ok (.aload_n 1, 1) := by decide +kernel
theorem dX0_copy_35 : decode cX0_copy 35 = .ok (.getfield 13, 3) := by decide +kernel
theorem dX0_copy_38 : decode cX0_copy 38 = .ok (.putfield 13, 3) := by decide +kernel
theorem dX0_copy_41 : decode cX0_copy 41 = .ok (.return_, 1) := by decide +kernel
theorem dX0_sign_0 : decode cX0_sign 0 = .ok (.aload_n 0, 1) := by decide +kernel
theorem dX0_sign_1 : decode cX0_sign 1 = .ok (.getfield 7, 3) := by decide +kernel
theorem dX0_sign_4 : decode cX0_sign 4 = .ok (.ifCond .ne 5, 3) := by decide +kernel
theorem dX0_sign_7 : decode cX0_sign 7 = .ok (.iconst 0, 1) := by decide +kernel
theorem dX0_sign_8 : decode cX0_sign 8 = .ok (.ireturn, 1) := by decide +kernel
theorem dX0_sign_9 : decode cX0_sign 9 = .ok (.aload_n 0, 1) := by decide +kernel
theorem dX0_sign_10 : decode cX0_sign 10 = .ok (.getfield 13, 3) := by decide +kernel
theorem dX0_sign_13 : decode cX0_sign 13 = .ok (.ifCond .eq 7, 3) := by decide +kernel
theorem dX0_sign_16 : decode cX0_sign 16 = .ok (.iconst (-1), 1) := by decide +kernel
theorem dX0_sign_17 : decode cX0_sign 17 = .ok (.goto 4, 3) := by decide +kernel
theorem dX0_sign_20 : decode cX0_sign 20 = .ok (.iconst 1, 1) := by decide +kernel
theorem dX0_sign_21 : decode cX0_sign 21 = .ok (.ireturn, 1) := by decide +kernel
theorem dX0_negate_0 : decode cX0_negate 0 = .ok (.aload_n 0, 1) := by decide +kernel
theorem dX0_negate_1 : decode cX0_negate 1 = .ok (.aload_n 0, 1) := by decide +kernel
theorem dX0_negate_2 : decode cX0_negate 2 = .ok (.getfield 13, 3) := by decide +kernel
theorem dX0_negate_5 : decode cX0_negate 5 = .ok (.ifCond .ne 14, 3) := by decide +kernel
theorem dX0_negate_8 : decode cX0_negate 8 = .ok (.aload_n 0, 1) := by decide +kernel
theorem dX0_negate_9 : decode cX0_negate 9 = .ok (.getfield 7, 3) := by decide +kernel
theorem dX0_negate_12 : decode cX0_negate 12 = .ok (.ifCond .le 7, 3) := by decide +kernel
theorem dX0_negate_15 : decode cX0_negate 15 = .ok (.iconst 1, 1) := by decide +kernel
theorem dX0_negate_16 : decode cX0_negate 16 = .ok (.goto 4, 3) := by decide +kernel
theorem dX0_negate_19 : decode cX0_negate 19 = .ok (.iconst 0, 1) := by decide +kernel
theorem dX0_negate_20 : decode cX0_negate 20 = .ok (.putfield 13, 3) := by decide +kernel
theorem dX0_negate_23 : decode cX0_negate 23 = .ok (.return_, 1) := by decide +kernel
theorem dX0_isOne_0 : decode cX0_isOne 0 = .ok (.aload_n 0, 1) := by decide +kernel
theorem dX0_isOne_1 : decode cX0_isOne 1 = .ok (.getfield 7, 3) := by decide +kernel
theorem dX0_isOne_4 : decode cX0_isOne 4 = .ok (.iconst 1, 1) := by decide +kernel
theorem dX0_isOne_5 : decode cX0_isOne 5 = .ok (.if_icmp .ne 24, 3) := by decide +kernel
theorem dX0_isOne_8 : decode cX0_isOne 8 = .ok (.aload_n 0, 1) := by decide +kernel
theorem dX0_isOne_9 : decode cX0_isOne 9 = .ok (.getfield 17, 3) := by decide +kernel
theorem dX0_isOne_12 : decode cX0_isOne 12 = .ok (.iconst 0, 1) := by decide +kernel
theorem dX0_isOne_13 : decode cX0_isOne 13 = .ok (.iaload, 1) := by decide +kernel
theorem dX0_isOne_14 : decode cX0_isOne 14 = .ok (.iconst 1, 1) := by decide +kernel
theorem dX0_isOne_15 : decode cX0_isOne 15 = .ok (.if_icmp .ne 14, 3) := by decide +kernel
theorem dX0_isOne_18 : decode cX0_isOne 18 = .ok (.aload_n 0, 1) := by decide +kernel
theorem dX0_isOne_19 : decode cX0_isOne 19 = .ok (.getfield 13, 3) := by decide +kernel
theorem dX0_isOne_22 : decode cX0_isOne 22 = .ok (.ifCond .ne 7, 3) := by decide +kernel
theorem dX0_isOne_25 : decode cX0_isOne 25 = .ok (.iconst 1, 1) := by decide +kernel
theorem dX0_isOne_26 : decode cX0_isOne 26 = .ok (.goto 4, 3) := by decide +kernel
theorem dX0_isOne_29 : decode cX0_isOne 29 = .ok (.iconst 0, 1) := by decide +kernel
theorem dX0_isOne_30 : decode cX0_isOne 30 = .ok (.ireturn, 1) := by decide +kernel
theorem dX0_digit_0 : decode cX0_digit 0 = .ok (.iload_n 1, 1) := by decide +kernel
theorem dX0_digit_1 : decode cX0_digit 1 = .ok (.aload_n 0, 1) := by decide +kernel
theorem dX0_digit_2 : decode cX0_digit 2 = .ok (.getfield 7, 3) := by decide +kernel
theorem dX0_digit_5 : decode cX0_digit 5 = .ok (.if_icmp .ge 17, 3) := by decide +kernel
theorem dX0_digit_8 : decode cX0_digit 8 = .ok (.aload_n 0, 1) := by decide +kernel
theorem dX0_digit_9 : decode cX0_digit 9 = .ok (.getfield 17, 3) := by decide +kernel
theorem dX0_digit_12 : decode cX0_digit 12 = .ok (.iload_n 1, 1) := by decide +kernel
theorem dX0_digit_13 : decode cX0_digit 13 = .ok (.iaload, 1) := by decide +kernel
theorem dX0_digit_14 : decode cX0_digit 14 = .ok (.i2l, 1) := by decide +kernel
theorem dX0_digit_15 : decode cX0_digit 15 = .ok (.ldc2_w 33, 3) := by decide +kernel
theorem dX0_digit_18 : decode cX0_digit 18 = .ok (.land, 1) := by decide +kernel
theorem dX0_digit_19 : decode cX0_digit 19 = .ok (.goto 4, 3) := by decide +kernel
theorem dX0_digit_22 : decode cX0_digit 22 = .ok (.lconst 0, 1) := by decide +kernel
theorem dX0_digit_23 : decode cX0_digit 23 = .ok (.lreturn, 1) := by decide +kernel
theorem dX0_trim_0 : decode cX0_trim 0 = .ok (.aload_n 0, 1) := by decide +kernel
theorem dX0_trim_1 : decode cX0_trim 1 = .ok (.iload_n 1, 1) := by decide +kernel
theorem dX0_trim_2 : decode cX0_trim 2 = .ok (.putfield 7, 3) := by decide +kernel
theorem dX0_trim_5 : decode cX0_trim 5 = .ok (.aload_n 0, 1) := by decide +kernel
theorem dX0_trim_6 : decode cX0_trim 6 = .ok (.getfield 7, 3) := by decide +kernel
theorem dX0_trim_9 : decode cX0_trim 9 = .ok (.ifCond .le 30, 3) := by decide +kernel
theorem dX0_trim_12 : decode cX0_trim 12 = .ok (.aload_n 0, 1) := by decide +kernel
theorem dX0_trim_13 : decode cX0_trim 13 = .ok (.getfield 17, 3) := by decide +kernel
theorem dX0_trim_16 : decode cX0_trim 16 = .ok (.aload_n 0, 1) := by decide +kernel
theorem dX0_trim_17 : decode cX0_trim 17 = .ok (.getfield 7, 3) := by decide +kernel
theorem dX0_trim_20 : decode cX0_trim 20 = .ok (.iconst 1, 1) := by decide +kernel
theorem dX0_trim_21 : decode cX0_trim 21 = .ok (.isub, 1) := by decide +kernel
theorem dX0_trim_22 : decode cX0_trim 22 = .ok (.iaload, 1) := by decide +kernel
theorem dX0_trim_23 : decode cX0_trim 23 = .ok (.ifCond .ne 16, 3) := by decide +kernel
theorem dX0_trim_26 : decode cX0_trim 26 = .ok (.aload_n 0, 1) := by decide +kernel
theorem dX0_trim_27 : decode cX0_trim 27 = .ok (.dup, 1) := by decide +kernel
theorem dX0_trim_28 : decode cX0_trim 28 = .ok (.getfield 7, 3) := by decide +kernel
theorem dX0_trim_31 : decode cX0_trim 31 = .ok (.iconst 1, 1) := by decide +kernel
theorem dX0_trim_32 : decode cX0_trim 32 = .ok (.isub, 1) := by decide +kernel
theorem dX0_trim_33 : decode cX0_trim 33 = .ok (.putfield 7, 3) := by decide +kernel
theorem dX0_trim_36 : decode cX0_trim 36 = .ok (.goto (-31), 3) := by decide +kernel
theorem dX0_trim_39 : decode cX0_trim 39 = .ok (.aload_n 0, 1) := by decide +kernel
theorem dX0_trim_40 : decode cX0_trim 40 = .ok (.aload_n 0, 1) := by decide +kernel
theorem dX0_trim_41 : decode cX0_trim 41 = .ok (.getfield 13, 3) := by decide +kernel
theorem dX0_trim_44 : decode cX0_trim 44 = .ok (.ifCond .eq 14, 3) := by decide +kernel
theorem dX0_trim_47 : decode cX0_trim 47 = .ok (.aload_n 0, 1) := by decide +kernel
theorem dX0_trim_48 : decode cX0_trim 48 = .ok (.getfield 7, 3) := by decide +kernel
theorem dX0_trim_51 : decode cX0_trim 51 = .ok (.ifCond .le 7, 3) := by decide +kernel
theorem dX0_trim_54 : decode cX0_trim 54 = .ok (.iconst 1, 1) := by decide +kernel
theorem dX0_trim_55 : decode cX0_trim 55 = .ok (.goto 4, 3) := by decide +kernel
theorem dX0_trim_58 : decode cX0_trim 58 = .ok (.iconst 0, 1) := by decide +kernel
theorem dX0_trim_59 : decode cX0_trim 59 = .ok (.putfield 13, 3) := by decide +kernel
theorem dX0_trim_62 : decode cX0_trim 62 = .ok (.return_, 1) := by decide +kernel
set_option maxRecDepth 20000 in
theorem ggX0_orderOfSizes_X0_digit : GoodIn wsX0_orderOfSizes wsX0_digit := goodIn_s _ [(7, 1), (1, 2), (8, 4)] rfl (by decide +kernel)
set_option maxRecDepth 20000 in
theorem gX0_orderOfSizes_X0_digit : GoodIn wsX0_orderOfSizes (wsV RX0 35 RX0 yX0_digit wsX0_digit) := goodIn_app (goodIn_r _ [3, 4, 5, 6] rfl (by decide +kernel)) ggX0_orderOfSizes_X0_digit
theorem dX0_orderOfSizes_0 : decode cX0_orderOfSizes 0 = .ok (.aload_n 0, 1) := by decide +kernel
theorem dX0_orderOfSizes_1 : decode cX0_orderOfSizes 1 = .ok (.getfield 7, 3) := by decide +kernel
theorem dX0_orderOfSizes_4 : decode cX0_orderOfSizes 4 = .ok (.aload_n 1, 1) := by decide +kernel
theorem dX0_orderOfSizes_5 : decode cX0_orderOfSizes 5 = .ok (.getfield 7, 3) := by decide +kernel
theorem dX0_orderOfSizes_8 : decode cX0_orderOfSizes 8 = .ok (.if_icmp .eq 20, 3) := by decide +kernel
theorem dX0_orderOfSizes_11 : decode cX0_orderOfSizes 11 = .ok (.aload_n 0, 1) := by decide +kernel
theorem dX0_orderOfSizes_12 : decode cX0_orderOfSizes 12 = .ok (.getfield 7, 3) := by decide +kernel
theorem dX0_orderOfSizes_15 : decode cX0_orderOfSizes 15 = .ok (.aload_n 1, 1) := by decide +kernel
theorem dX0_orderOfSizes_16 : decode cX0_orderOfSizes 16 = .ok (.getfield 7, 3) := by decide +kernel
theorem dX0_orderOfSizes_19 : decode cX0_orderOfSizes 19 = .ok (.if_icmp .ge 7, 3) := by decide +kernel
theorem dX0_orderOfSizes_22 : decode cX0_orderOfSizes 22 = .ok (.iconst (-1), 1) := by decide +kernel
theorem dX0_orderOfSizes_23 : decode cX0_orderOfSizes 23 = .ok (.goto 4, 3) := by decide +kernel
theorem dX0_orderOfSizes_26 : decode cX0_orderOfSizes 26 = .ok (.iconst 1, 1) := by decide +kernel
theorem dX0_orderOfSizes_27 : decode cX0_orderOfSizes 27 = .ok (.ireturn, 1) := by decide +kernel
theorem dX0_orderOfSizes_28 : decode cX0_orderOfSizes 28 = .ok (.aload_n 0, 1) := by decide +kernel
theorem dX0_orderOfSizes_29 : decode cX0_orderOfSizes 29 = .ok (.getfield 7, 3) := by decide +kernel
theorem dX0_orderOfSizes_32 : decode cX0_orderOfSizes 32 = .ok (.iconst 1, 1) := by decide +kernel
theorem dX0_orderOfSizes_33 : decode cX0_orderOfSizes 33 = .ok (.isub, 1) := by decide +kernel
theorem dX0_orderOfSizes_34 : decode cX0_orderOfSizes 34 = .ok (.istore_n 2, 1) := by decide +kernel
theorem dX0_orderOfSizes_35 : decode cX0_orderOfSizes 35 = .ok (.iload_n 2, 1) := by decide +kernel
theorem dX0_orderOfSizes_36 : decode cX0_orderOfSizes 36 = .ok (.ifCond .lt 44, 3) := by decide +kernel
theorem dX0_orderOfSizes_39 : decode cX0_orderOfSizes 39 = .ok (.aload_n 0, 1) := by decide +kernel
theorem dX0_orderOfSizes_40 : decode cX0_orderOfSizes 40 = .ok (.getfield 17, 3) := by decide +kernel
theorem dX0_orderOfSizes_43 : decode cX0_orderOfSizes 43 = .ok (.iload_n 2, 1) := by decide +kernel
theorem dX0_orderOfSizes_44 : decode cX0_orderOfSizes 44 = .ok (.iaload, 1) := by decide +kernel
theorem dX0_orderOfSizes_45 : decode cX0_orderOfSizes 45 = .ok (.aload_n 1, 1) := by decide +kernel
theorem dX0_orderOfSizes_46 : decode cX0_orderOfSizes 46 = .ok (.getfield 17, 3) := by decide +kernel
theorem dX0_orderOfSizes_49 : decode cX0_orderOfSizes 49 = .ok (.iload_n 2, 1) := by decide +kernel
theorem dX0_orderOfSizes_50 : decode cX0_orderOfSizes 50 = .ok (.iaload, 1) := by decide +kernel
theorem dX0_orderOfSizes_51 : decode cX0_orderOfSizes 51 = .ok (.if_icmp .eq 23, 3) := by decide +kernel
theorem dX0_orderOfSizes_54 : decode cX0_orderOfSizes 54 = .ok (.aload_n 0, 1) := by decide +kernel
theorem dX0_orderOfSizes_55 : decode cX0_orderOfSizes 55 = .ok (.iload_n 2, 1) := by decide +kernel
theorem dX0_orderOfSizes_56 : decode cX0_orderOfSizes 56 = .ok (.invokevirtual 35, 3) := by decide +kernel
theorem dX0_orderOfSizes_59 : decode cX0_orderOfSizes 59 = .ok (.aload_n 1, 1) := by decide +kernel
theorem dX0_orderOfSizes_60 : decode cX0_orderOfSizes 60 = .ok (.iload_n 2, 1) := by decide +kernel
theorem dX0_orderOfSizes_61 : decode cX0_orderOfSizes 61 = .ok (.invokevirtual 35, 3) := by decide +kernel
theorem dX0_orderOfSizes_64 : decode cX0_orderOfSizes 64 = .ok (.lcmp, 1) := by decide +kernel
theorem dX0_orderOfSizes_65 : decode cX0_orderOfSizes 65 = .ok (.ifCond .ge 7, 3) := by decide +kernel
theorem dX0_orderOfSizes_68 : decode cX0_orderOfSizes 68 = .ok (.iconst (-1), 1) := by decide +kernel
theorem dX0_orderOfSizes_69 : decode cX0_orderOfSizes 69 = .ok (.goto 4, 3) := by decide +kernel
theorem dX0_orderOfSizes_72 : decode cX0_orderOfSizes 72 = .ok (.iconst 1, 1) := by decide +kernel
theorem dX0_orderOfSizes_73 : decode cX0_orderOfSizes 73 = .ok (.ireturn, 1) := by decide +kernel
theorem dX0_orderOfSizes_74 : decode cX0_orderOfSizes 74 = .ok (.iinc 2 (-1), 3) := by decide +kernel
theorem dX0_orderOfSizes_77 : decode cX0_orderOfSizes 77 = .ok (.goto (-42), 3) := by decide +kernel
theorem dX0_orderOfSizes_80 : decode cX0_orderOfSizes 80 = .ok (.iconst 0, 1) := by decide +kernel
theorem dX0_orderOfSizes_81 : decode cX0_orderOfSizes 81 = .ok (.ireturn, 1) := by decide +kernel
set_option maxRecDepth 20000 in
theorem ggX0_order_X0_sign : GoodIn wsX0_order wsX0_sign := goodIn_s _ [(6, 2), (1, 1), (18, 3)] rfl (by decide +kernel)
set_option maxRecDepth 20000 in
theorem gX0_order_X0_sign : GoodIn wsX0_order (wsV RX0 39 RX0 yX0_sign wsX0_sign) := goodIn_app (goodIn_r _ [2, 3, 4, 5] rfl (by decide +kernel)) ggX0_order_X0_sign
set_option maxRecDepth 20000 in
theorem ggX0_order_X0_orderOfSizes : GoodIn wsX0_order wsX0_orderOfSizes := goodIn_s _ [(11, 1), (7, 1), (12, 4), (5, 1), (16, 5)] rfl (by decide +kernel)
set_option maxRecDepth 20000 in
theorem gX0_order_X0_orderOfSizes : GoodIn wsX0_order (wsV RX0 43 RX0 yX0_orderOfSizes wsX0_orderOfSizes) := goodIn_app (goodIn_r _ [8, 9, 10, 5] rfl (by decide +kernel)) ggX0_order_X0_orderOfSizes
theorem dX0_order_0 : decode cX0_order 0 = .ok (.aload_n 0, 1) := by decide +kernel
theorem dX0_order_1 : decode cX0_order 1 = .ok (.invokevirtual 39, 3) := by decide +kernel
theorem dX0_order_4 : decode cX0_order 4 = .ok (.aload_n 1, 1) := by decide +kernel
theorem dX0_order_5 : decode cX0_order 5 = .ok (.invokevirtual 39, 3) := by decide +kernel
theorem dX0_order_8 : decode cX0_order 8 = .ok (.if_icmp .eq 20, 3) := by decide +kernel
theorem dX0_order_11 : decode cX0_order 11 = .ok (.aload_n 0, 1) := by decide +kernel
theorem dX0_order_12 : decode cX0_order 12 = .ok (.invokevirtual 39, 3) := by decide +kernel
theorem dX0_order_15 : decode cX0_order 15 = .ok (.aload_n 1, 1) := by decide +kernel
theorem dX0_order_16 : decode cX0_order 16 = .ok (.invokevirtual 39, 3) := by decide +kernel
theorem dX0_order_19 : decode cX0_order 19 = .ok (.if_icmp .ge 7, 3) := by decide +kernel
theorem dX0_order_22 : decode cX0_order 22 = .ok (.iconst (-1), 1) := by decide +kernel
theorem dX0_order_23 : decode cX0_order 23 = .ok (.goto 4, 3) := by decide +kernel
theorem dX0_order_26 : decode cX0_order 26 = .ok (.iconst 1, 1) := by decide +kernel
theorem dX0_order_27 : decode cX0_order 27 = .ok (.ireturn, 1) := by decide +kernel
theorem dX0_order_28 : decode cX0_order 28 = .ok (.aload_n 0, 1) := by decide +kernel
theorem dX0_order_29 : decode cX0_order 29 = .ok (.getfield 13, 3) := by decide +kernel
theorem dX0_order_32 : decode cX0_order 32 = .ok (.ifCond .eq 11, 3) := by decide +kernel
theorem dX0_order_35 : decode cX0_order 35 = .ok (.aload_n 1, 1) := by decide +kernel
theorem dX0_order_36 : decode cX0_order 36 = .ok (.aload_n 0, 1) := by decide +kernel
theorem dX0_order_37 : decode cX0_order 37 = .ok (.invokevirtual 43, 3) := by decide +kernel
theorem dX0_order_40 : decode cX0_order 40 = .ok (.goto 8, 3) := by decide +kernel
theorem dX0_order_43 : decode cX0_order 43 = .ok (.aload_n 0, 1) := by decide +kernel
theorem dX0_order_44 : decode cX0_order 44 = .ok (.aload_n 1, 1) := by decide +kernel
theorem dX0_order_45 : decode cX0_order 45 = .ok (.invokevirtual 43, 3) := by decide +kernel
theorem dX0_order_48 : decode cX0_order 48 = .ok (.ireturn, 1) := by decide +kernel
set_option maxRecDepth 20000 in
theorem ggX0_plus_X0_copy : GoodIn wsX0_plus wsX0_copy := goodIn_s _ [(7, 1), (1, 1), (8, 9), (2, 1), (38, 3)] rfl (by decide +kernel)
set_option maxRecDepth 20000 in
theorem gX0_plus_X0_copy : GoodIn wsX0_plus (wsV RX0 47 RX0 yX0_copy wsX0_copy) := goodIn_app (goodIn_r _ [3, 4, 5, 6] rfl (by decide +kernel)) ggX0_plus_X0_copy
set_option maxRecDepth 20000 in
theorem ggX0_plus_X0_putSum : GoodIn wsX0_plus wsX0_putSum := goodIn_s _ [(20, 1), (1, 1), (8, 5), (21, 1), (38, 3)] rfl (by decide +kernel)
set_option maxRecDepth 20000 in
theorem gX0_plus_X0_putSum : GoodIn wsX0_plus (wsV RX0 51 RX0 yX0_putSum wsX0_putSum) := goodIn_app (goodIn_r _ [17, 18, 19, 6] rfl (by decide +kernel)) ggX0_plus_X0_putSum
set_option maxRecDepth 20000 in
theorem ggX0_plus_X0_orderOfSizes : GoodIn wsX0_plus wsX0_orderOfSizes := goodIn_s _ [(25, 1), (1, 1), (8, 1), (26, 3), (6, 1), (29, 1), (21, 1), (38, 3)] rfl (by decide +kernel)
set_option maxRecDepth 20000 in
theorem gX0_plus_X0_orderOfSizes : GoodIn wsX0_plus (wsV RX0 43 RX0 yX0_orderOfSizes wsX0_orderOfSizes) := goodIn_app (goodIn_r _ [22, 23, 24, 6] rfl (by decide +kernel)) ggX0_plus_X0_orderOfSizes
set_option maxRecDepth 20000 in
theorem ggX0_plus_X0_putDifference : GoodIn wsX0_plus wsX0_putDifference := goodIn_s _ [(33, 1), (1, 1), (8, 5), (21, 1), (34, 3), (6, 1), (37, 1), (2, 1), (38, 3)] rfl (by decide +kernel)
set_option maxRecDepth 20000 in
theorem gX0_plus_X0_putDifference : GoodIn wsX0_plus (wsV RX0 55 RX0 yX0_putDifference wsX0_putDifference) := goodIn_app (goodIn_r _ [30, 31, 32, 6] rfl (by decide +kernel)) ggX0_plus_X0_putDifference
theorem dX0_plus_0 : decode cX0_plus 0 = .ok (.aload_n 1, 1) := by decide +kernel
theorem dX0_plus_1 : decode cX0_plus 1 = .ok (.getfield 7, 3) := by decide +kernel
theorem dX0_plus_4 : decode cX0_plus 4 = .ok (.ifCond .ne 4, 3) := by decide +kernel
theorem dX0_plus_7 : decode cX0_plus 7 = .ok (.return_, 1) := by decide +kernel
theorem dX0_plus_8 : decode cX0_plus 8 = .ok (.aload_n 0, 1) := by decide +kernel
theorem dX0_plus_9 : decode cX0_plus 9 = .ok (.getfield 7, 3) := by decide +kernel
theorem dX0_plus_12 : decode cX0_plus 12 = .ok (.ifCond .ne 11, 3) := by decide +kernel
theorem dX0_plus_15 : decode cX0_plus 15 = .ok (.aload_n 0, 1) := by decide +kernel
theorem dX0_plus_16 : decode cX0_plus 16 = .ok (.aload_n 1, 1) := by decide +kernel
theorem dX0_plus_17 : decode cX0_plus 17 = .ok (.invokevirtual 47, 3) := by decide +kernel
theorem dX0_plus_20 : decode cX0_plus 20 = .ok (.goto 84, 3) := by decide +kernel
theorem dX0_plus_23 : decode cX0_plus 23 = .ok (.aload_n 0, 1) := by decide +kernel
theorem dX0_plus_24 : decode cX0_plus 24 = .ok (.getfield 13, 3) := by decide +kernel
theorem dX0_plus_27 : decode cX0_plus 27 = .ok (.aload_n 1, 1) := by decide +kernel
theorem dX0_plus_28 : decode cX0_plus 28 = .ok (.getfield 13, 3) := by decide +kernel
theorem dX0_plus_31 : decode cX0_plus 31 = .ok (.if_icmp .ne 42, 3) := by decide +kernel
theorem dX0_plus_34 : decode cX0_plus 34 = .ok (.aload_n 0, 1) := by decide +kernel
theorem dX0_plus_35 : decode cX0_plus 35 = .ok (.aload_n 0, 1) := by decide +kernel
theorem dX0_plus_36 : decode cX0_plus 36 = .ok (.getfield 7, 3) := by decide +kernel
theorem dX0_plus_39 : decode cX0_plus 39 = .ok (.aload_n 1, 1) := by decide +kernel
theorem dX0_plus_40 : decode cX0_plus 40 = .ok (.getfield 7, 3) := by decide +kernel
theorem dX0_plus_43 : decode cX0_plus 43 = .ok (.if_icmp .lt 7, 3) := by decide +kernel
theorem dX0_plus_46 : decode cX0_plus 46 = .ok (.aload_n 0, 1) := by decide +kernel
theorem dX0_plus_47 : decode cX0_plus 47 = .ok (.goto 4, 3) := by decide +kernel
theorem dX0_plus_50 : decode cX0_plus 50 = .ok (.aload_n 1, 1) := by decide +kernel
theorem dX0_plus_51 : decode cX0_plus 51 = .ok (.aload_n 0, 1) := by decide +kernel
theorem dX0_plus_52 : decode cX0_plus 52 = .ok (.getfield 7, 3) := by decide +kernel
theorem dX0_plus_55 : decode cX0_plus 55 = .ok (.aload_n 1, 1) := by decide +kernel
theorem dX0_plus_56 : decode cX0_plus 56 = .ok (.getfield 7, 3) := by decide +kernel
theorem dX0_plus_59 : decode cX0_plus 59 = .ok (.if_icmp .lt 7, 3) := by decide +kernel
theorem dX0_plus_62 : decode cX0_plus 62 = .ok (.aload_n 1, 1) := by decide +kernel
theorem dX0_plus_63 : decode cX0_plus 63 = .ok (.goto 4, 3) := by decide +kernel
theorem dX0_plus_66 : decode cX0_plus 66 = .ok (.aload_n 0, 1) := by decide +kernel
theorem dX0_plus_67 : decode cX0_plus 67 = .ok (.invokevirtual 51, 3) := by decide +kernel
theorem dX0_plus_70 : decode cX0_plus 70 = .ok (.goto 34, 3) := by decide +kernel
theorem dX0_plus_73 : decode cX0_plus 73 = .ok (.aload_n 0, 1) := by decide +kernel
theorem dX0_plus_74 : decode cX0_plus 74 = .ok (.aload_n 1, 1) := by decide +kernel
theorem dX0_plus_75 : decode cX0_plus 75 = .ok (.invokevirtual 43, 3) := by decide +kernel
theorem dX0_plus_78 : decode cX0_plus 78 = .ok (.ifCond .lt 12, 3) := by decide +kernel
theorem dX0_plus_81 : decode cX0_plus 81 = .ok (.aload_n 0, 1) := by decide +kernel
theorem dX0_plus_82 : decode cX0_plus 82 = .ok (.aload_n 0, 1) := by decide +kernel
theorem dX0_plus_83 : decode cX0_plus 83 = .ok (.aload_n 1, 1) := by decide +kernel
theorem dX0_plus_84 : decode cX0_plus 84 = .ok (.invokevirtual 55, 3) := by decide +kernel
theorem dX0_plus_87 : decode cX0_plus 87 = .ok (.goto 17, 3) := by decide +kernel
theorem dX0_plus_90 : decode cX0_plus 90 = .ok (.aload_n 0, 1) := by decide +kernel
theorem dX0_plus_91 : decode cX0_plus 91 = .ok (.aload_n 1, 1) := by decide +kernel
theorem dX0_plus_92 : decode cX0_plus 92 = .ok (.getfield 13, 3) := by decide +kernel
theorem dX0_plus_95 : decode cX0_plus 95 = .ok (.putfield 13, 3) := by decide +kernel
theorem dX0_plus_98 : decode cX0_plus 98 = .ok (.aload_n 0, 1) := by decide +kernel
theorem dX0_plus_99 : decode cX0_plus 99 = .ok (.aload_n 1, 1) := by decide +kernel
theorem dX0_plus_100 : decode cX0_plus 100 = .ok (.aload_n 0, 1) := by decide +kernel
theorem dX0_plus_101 : decode cX0_plus 101 = .ok (.invokevirtual 55, 3) := by decide +kernel
theorem dX0_plus_104 : decode cX0_plus 104 = .ok (.return_, 1) := by decide +kernel
theorem dX0_putSum_0 : decode cX0_putSum 0 = .ok (.aload_n 1, 1) := by decide +kernel
theorem dX0_putSum_1 : decode cX0_putSum 1 = .ok (.getfield 7, 3) := by decide +kernel
theorem dX0_putSum_4 : decode cX0_putSum 4 = .ok (.aload_n 0, 1) := by decide +kernel
theorem dX0_putSum_5 : decode cX0_putSum 5 = .ok (.getfield 17, 3) := by decide +kernel
theorem dX0_putSum_8 : decode cX0_putSum 8 = .ok (.arraylength, 1) := by decide +kernel
theorem dX0_putSum_9 : decode cX0_putSum 9 = .ok (.invokestatic 21, 3) := by decide +kernel
theorem dX0_putSum_12 : decode cX0_putSum 12 = .ok (.istore_n 3, 1) := by decide +kernel
theorem dX0_putSum_13 : decode cX0_putSum 13 = .ok (.aload_n 2, 1) := by decide +kernel
theorem dX0_putSum_14 : decode cX0_putSum 14 = .ok (.getfield 7, 3) := by decide +kernel
theorem dX0_putSum_17 : decode cX0_putSum 17 = .ok (.iload_n 3, 1) := by decide +kernel
theorem dX0_putSum_18 : decode cX0_putSum 18 = .ok (.invokestatic 21, 3) := by decide +kernel
theorem dX0_putSum_21 : decode cX0_putSum 21 = .ok (.istore 4, 2) := by decide +kernel
theorem dX0_putSum_23 : decode cX0_putSum 23 = .ok (.lconst 0, 1) := by decide +kernel
theorem dX0_putSum_24 : decode cX0_putSum 24 = .ok (.lstore 5, 2) := by decide +kernel
theorem dX0_putSum_26 : decode cX0_putSum 26 = .ok (.iconst 0, 1) := by decide +kernel
theorem dX0_putSum_27 : decode cX0_putSum 27 = .ok (.istore 7, 2) := by decide +kernel
theorem dX0_putSum_29 : decode cX0_putSum 29 = .ok (.iload 7, 2) := by decide +kernel
theorem dX0_putSum_31 : decode cX0_putSum 31 = .ok (.iload 4, 2) := by decide +kernel
theorem dX0_putSum_33 : decode cX0_putSum 33 = .ok (.if_icmp .ge 56, 3) := by decide +kernel
theorem dX0_putSum_36 : decode cX0_putSum 36 = .ok (.lload 5, 2) := by decide +kernel
theorem dX0_putSum_38 : decode cX0_putSum 38 = .ok (.aload_n 1, 1) := by decide +kernel
theorem dX0_putSum_39 : decode cX0_putSum 39 = .ok (.getfield 17, 3) := by decide +kernel
theorem dX0_putSum_42 : decode cX0_putSum 42 = .ok (.iload 7, 2) := by decide +kernel
theorem dX0_putSum_44 : decode cX0_putSum 44 = .ok (.iaload, 1) := by decide +kernel
theorem dX0_putSum_45 : decode cX0_putSum 45 = .ok (.i2l, 1) := by decide +kernel
theorem dX0_putSum_46 : decode cX0_putSum 46 = .ok (.ldc2_w 33, 3) := by decide +kernel
theorem dX0_putSum_49 : decode cX0_putSum 49 = .ok (.land, 1) := by decide +kernel
theorem dX0_putSum_50 : decode cX0_putSum 50 = .ok (.aload_n 2, 1) := by decide +kernel
theorem dX0_putSum_51 : decode cX0_putSum 51 = .ok (.getfield 17, 3) := by decide +kernel
theorem dX0_putSum_54 : decode cX0_putSum 54 = .ok (.iload 7, 2) := by decide +kernel
theorem dX0_putSum_56 : decode cX0_putSum 56 = .ok (.iaload, 1) := by decide +kernel
theorem dX0_putSum_57 : decode cX0_putSum 57 = .ok (.i2l, 1) := by decide +kernel
theorem dX0_putSum_58 : decode cX0_putSum 58 = .ok (.ldc2_w 33, 3) := by decide +kernel
theorem dX0_putSum_61 : decode cX0_putSum 61 = .ok (.land, 1) := by decide +kernel
theorem dX0_putSum_62 : decode cX0_putSum 62 = .ok (.ladd, 1) := by decide +kernel
theorem dX0_putSum_63 : decode cX0_putSum 63 = .ok (.ladd, 1) := by decide +kernel
theorem dX0_putSum_64 : decode cX0_putSum 64 = .ok (.lstore 5, 2) := by decide +kernel
theorem dX0_putSum_66 : decode cX0_putSum 66 = .ok (.aload_n 0, 1) := by decide +kernel
theorem dX0_putSum_67 : decode cX0_putSum 67 = .ok (.getfield 17, 3) := by decide +kernel
theorem dX0_putSum_70 : decode cX0_putSum 70 = .ok (.iload 7, 2) := by decide +kernel
theorem dX0_putSum_72 : decode cX0_putSum 72 = .ok (.lload 5, 2) := by decide +kernel
theorem dX0_putSum_74 : decode cX0_putSum 74 = .ok (.l2i, 1) := by decide +kernel
theorem dX0_putSum_75 : decode cX0_putSum 75 = .ok (.iastore, 1) := by decide +kernel
theorem dX0_putSum_76 : decode cX0_putSum 76 = .ok (.lload 5, 2) := by decide +kernel
theorem dX0_putSum_78 : decode cX0_putSum 78 = .ok (.bipush 32, 2) := by decide +kernel
theorem dX0_putSum_80 : decode cX0_putSum 80 = .ok (.lushr, 1) := by decide +kernel
theorem dX0_putSum_81 : decode cX0_putSum 81 = .ok (.lstore 5, 2) := by decide +kernel
theorem dX0_putSum_83 : decode cX0_putSum 83 = .ok (.iinc 7 1, 3) := by decide +kernel
theorem dX0_putSum_86 : decode cX0_putSum 86 = .ok (.goto (-57), 3) := by decide +kernel
theorem dX0_putSum_89 : decode cX0_putSum 89 = .ok (.iload 4, 2) := by decide +kernel
theorem dX0_putSum_91 : decode cX0_putSum 91 = .ok (.istore 7, 2) := by decide +kernel
theorem dX0_putSum_93 : decode cX0_putSum 93 = .ok (.iload 7, 2) := by decide +kernel
theorem dX0_putSum_95 : decode cX0_putSum 95 = .ok (.iload_n 3, 1) := by decide +kernel
theorem dX0_putSum_96 : decode cX0_putSum 96 = .ok (.if_icmp .ge 43, 3) := by decide +kernel
theorem dX0_putSum_99 : decode cX0_putSum 99 = .ok (.lload 5, 2) := by decide +kernel
theorem dX0_putSum_101 : decode cX0_putSum 101 = .ok (.aload_n 1, 1) := by decide +kernel
theorem dX0_putSum_102 : decode cX0_putSum 102 = .ok (.getfield 17, 3) := by decide +kernel
theorem dX0_putSum_105 : decode cX0_putSum 105 = .ok (.iload 7, 2) := by decide +kernel
theorem dX0_putSum_107 : decode cX0_putSum 107 = .ok (.iaload, 1) := by decide +kernel
theorem dX0_putSum_108 : decode cX0_putSum 108 = .ok (.i2l, 1) := by decide +kernel
theorem dX0_putSum_109 : decode cX0_putSum 109 = .ok (.ldc2_w 33, 3) := by decide +kernel
theorem dX0_putSum_112 : decode cX0_putSum 112 = .ok (.land, 1) := by decide +kernel
theorem dX0_putSum_113 : decode cX0_putSum 113 = .ok (.ladd, 1) := by decide +kernel
theorem dX0_putSum_114 : decode cX0_putSum 114 = .ok (.lstore 5, 2) := by decide +kernel
theorem dX0_putSum_116 : decode cX0_putSum 116 = .ok (.aload_n 0, 1) := by decide +kernel
theorem dX0_putSum_117 : decode cX0_putSum 117 = .ok (.getfield 17, 3) := by decide +kernel
theorem dX0_putSum_120 : decode cX0_putSum 120 = .ok (.iload 7, 2) := by decide +kernel
theorem dX0_putSum_122 : decode cX0_putSum 122 = .ok (.lload 5, 2) := by decide +kernel
theorem dX0_putSum_124 : decode cX0_putSum 124 = .ok (.l2i, 1) := by decide +kernel
theorem dX0_putSum_125 : decode cX0_putSum 125 = .ok (.iastore, 1) := by decide +kernel
theorem dX0_putSum_126 : decode cX0_putSum 126 = .ok (.lload 5, 2) := by decide +kernel
theorem dX0_putSum_128 : decode cX0_putSum 128 = .ok (.bipush 32, 2) := by decide +kernel
theorem dX0_putSum_130 : decode cX0_putSum 130 = .ok (.lushr, 1) := by decide +kernel
theorem dX0_putSum_131 : decode cX0_putSum 131 = .ok (.lstore 5, 2) := by decide +kernel
theorem dX0_putSum_133 : decode cX0_putSum 133 = .ok (.iinc 7 1, 3) := by decide +kernel
theorem dX0_putSum_136 : decode cX0_putSum 136 = .ok (.goto (-43), 3) := by decide +kernel
theorem dX0_putSum_139 : decode cX0_putSum 139 = .ok (.aload_n 0, 1) := by decide +kernel
theorem dX0_putSum_140 : decode cX0_putSum 140 = .ok (.iload_n 3, 1) := by decide +kernel
theorem dX0_putSum_141 : decode cX0_putSum 141 = .ok (.putfield 7, 3) := by decide +kernel
theorem dX0_putSum_144 : decode cX0_putSum 144 = .ok (.lload 5, 2) := by decide +kernel
theorem dX0_putSum_146 : decode cX0_putSum 146 = .ok (.lconst 0, 1) := by decide +kernel
theorem dX0_putSum_147 : decode cX0_putSum 147 = .ok (.lcmp, 1) := by decide +kernel
theorem dX0_putSum_148 : decode cX0_putSum 148 = .ok (.ifCond .eq 28, 3) := by decide +kernel
theorem dX0_putSum_151 : decode cX0_putSum 151 = .ok (.iload_n 3, 1) := by decide +kernel
theorem dX0_putSum_152 : decode cX0_putSum 152 = .ok (.aload_n 0, 1) := by decide +kernel
theorem dX0_putSum_153 : decode cX0_putSum 153 = .ok (.getfield 17, 3) := by decide +kernel
theorem dX0_putSum_156 : decode cX0_putSum 156 = .ok (.arraylength, 1) := by decide +kernel
theorem dX0_putSum_157 : decode cX0_putSum 157 = .ok (.if_icmp .ge 19, 3) := by decide +kernel
theorem dX0_putSum_160 : decode cX0_putSum 160 = .ok (.aload_n 0, 1) := by decide +kernel
theorem dX0_putSum_161 : decode cX0_putSum 161 = .ok (.getfield 17, 3) := by decide +kernel
theorem dX0_putSum_164 : decode cX0_putSum 164 = .ok (.iload_n 3, 1) := by decide +kernel
theorem dX0_putSum_165 : decode cX0_putSum 165 = .ok (.lload 5, 2) := by decide +kernel
theorem dX0_putSum_167 : decode cX0_putSum 167 = .ok (.l2i, 1) := by decide +kernel
theorem dX0_putSum_168 : decode cX0_putSum 168 = .ok (.iastore, 1) := by decide +kernel
theorem dX0_putSum_169 : decode cX0_putSum 169 = .ok (.aload_n 0, 1) := by decide +kernel
theorem dX0_putSum_170 : decode cX0_putSum 170 = .ok (.iload_n 3, 1) := by decide +kernel
theorem dX0_putSum_171 : decode cX0_putSum 171 = .ok (.iconst 1, 1) := by decide +kernel
theorem dX0_putSum_172 : decode cX0_putSum 172 = .ok (.iadd, 1) := by decide +kernel
theorem dX0_putSum_173 : decode cX0_putSum 173 = .ok (.putfield 7, 3) := by decide +kernel
theorem dX0_putSum_176 : decode cX0_putSum 176 = .ok (.return_, 1) := by decide +kernel
set_option maxRecDepth 20000 in
theorem ggX0_putDifference_X0_trim : GoodIn wsX0_putDifference wsX0_trim := goodIn_s _ [(12, 1), (1, 2), (13, 4)] rfl (by decide +kernel)
set_option maxRecDepth 20000 in
theorem gX0_putDifference_X0_trim : GoodIn wsX0_putDifference (wsV RX0 58 RX0 yX0_trim wsX0_trim) := goodIn_app (goodIn_r _ [8, 9, 10, 11] rfl (by decide +kernel)) ggX0_putDifference_X0_trim
theorem dX0_putDifference_0 : decode cX0_putDifference 0 = .ok (.aload_n 1, 1) := by decide +kernel
theorem dX0_putDifference_1 : decode cX0_putDifference 1 = .ok (.getfield 7, 3) := by decide +kernel
theorem dX0_putDifference_4 : decode cX0_putDifference 4 = .ok (.aload_n 0, 1) := by decide +kernel
theorem dX0_putDifference_5 : decode cX0_putDifference 5 = .ok (.getfield 17, 3) := by decide +kernel
theorem dX0_putDifference_8 : decode cX0_putDifference 8 = .ok (.arraylength, 1) := by decide +kernel
theorem dX0_putDifference_9 : decode cX0_putDifference 9 = .ok (.invokestatic 21, 3) := by decide +kernel
theorem dX0_putDifference_12 : decode cX0_putDifference 12 = .ok (.istore_n 3, 1) := by decide +kernel
theorem dX0_putDifference_13 : decode cX0_putDifference 13 = .ok (.aload_n 2, 1) := by decide +kernel
theorem dX0_putDifference_14 : decode cX0_putDifference 14 = .ok (.getfield 7, 3) := by decide +kernel
theorem dX0_putDifference_17 : decode cX0_putDifference 17 = .ok (.iload_n 3, 1) := by decide +kernel
theorem dX0_putDifference_18 : decode cX0_putDifference 18 = .ok (.invokestatic 21, 3) := by decide +kernel
theorem dX0_putDifference_21 : decode cX0_putDifference 21 = .ok (.istore 4, 2) := by decide +kernel
theorem dX0_putDifference_23 : decode cX0_putDifference 23 = .ok (.lconst 0, 1) := by decide +kernel
theorem dX0_putDifference_24 : decode cX0_putDifference 24 = .ok (.lstore 5, 2) := by decide +kernel
theorem dX0_putDifference_26 : decode cX0_putDifference 26 = .ok (.iconst 0, 1) := by decide +kernel
theorem dX0_putDifference_27 : decode cX0_putDifference 27 = .ok (.istore 7, 2) := by decide +kernel
theorem dX0_putDifference_29 : decode cX0_putDifference 29 = .ok (.iload 7, 2) := by decide +kernel
theorem dX0_putDifference_31 : decode cX0_putDifference 31 = .ok (.iload 4, 2) := by decide +kernel
theorem dX0_putDifference_33 : decode cX0_putDifference 33 = .ok (.if_icmp .ge 63, 3) := by decide +kernel
theorem dX0_putDifference_36 : decode cX0_putDifference 36 = .ok (.aload_n 1, 1) := by decide +kernel
theorem dX0_putDifference_37 : decode cX0_putDifference 37 = .ok (.getfield 17, 3) := by decide +kernel
theorem dX0_putDifference_40 : decode cX0_putDifference 40 = .ok (.iload 7, 2) := by decide +kernel
theorem dX0_putDifference_42 : decode cX0_putDifference 42 = .ok (.iaload, 1) := by decide +kernel
theorem dX0_putDifference_43 : decode cX0_putDifference 43 = .ok (.i2l, 1) := by decide +kernel
theorem dX0_putDifference_44 : decode cX0_putDifference 44 = .ok (.ldc2_w 33, 3) := by decide +kernel
theorem dX0_putDifference_47 : decode cX0_putDifference 47 = .ok (.land, 1) := by decide +kernel
theorem dX0_putDifference_48 : decode cX0_putDifference 48 = .ok (.aload_n 2, 1) := by decide +kernel
theorem dX0_putDifference_49 : decode cX0_putDifference 49 = .ok (.getfield 17, 3) := by decide +kernel
theorem dX0_putDifference_52 : decode cX0_putDifference 52 = .ok (.iload 7, 2) := by decide +kernel
theorem dX0_putDifference_54 : decode cX0_putDifference 54 = .ok (.iaload, 1) := by decide +kernel
theorem dX0_putDifference_55 : decode cX0_putDifference 55 = .ok (.i2l, 1) := by decide +kernel
theorem dX0_putDifference_56 : decode cX0_putDifference 56 = .ok (.ldc2_w 33, 3) := by decide +kernel
theorem dX0_putDifference_59 : decode cX0_putDifference 59 = .ok (.land, 1) := by decide +kernel
theorem dX0_putDifference_60 : decode cX0_putDifference 60 = .ok (.lsub, 1) := by decide +kernel
theorem dX0_putDifference_61 : decode cX0_putDifference 61 = .ok (.lload 5, 2) := by decide +kernel
theorem dX0_putDifference_63 : decode cX0_putDifference 63 = .ok (.lsub, 1) := by decide +kernel
theorem dX0_putDifference_64 : decode cX0_putDifference 64 = .ok (.lstore 8, 2) := by decide +kernel
theorem dX0_putDifference_66 : decode cX0_putDifference 66 = .ok (.aload_n 0, 1) := by decide +kernel
theorem dX0_putDifference_67 : decode cX0_putDifference 67 = .ok (.getfield 17, 3) := by decide +kernel
theorem dX0_putDifference_70 : decode cX0_putDifference 70 = .ok (.iload 7, 2) := by decide +kernel
theorem dX0_putDifference_72 : decode cX0_putDifference 72 = .ok (.lload 8, 2) := by decide +kernel
theorem dX0_putDifference_74 : decode cX0_putDifference 74 = .ok (.l2i, 1) := by decide +kernel
theorem dX0_putDifference_75 : decode cX0_putDifference 75 = .ok (.iastore, 1) := by decide +kernel
theorem dX0_putDifference_76 : decode cX0_putDifference 76 = .ok (.lload 8, 2) := by decide +kernel
theorem dX0_putDifference_78 : decode cX0_putDifference 78 = .ok (.lconst 0, 1) := by decide +kernel
theorem dX0_putDifference_79 : decode cX0_putDifference 79 = .ok (.lcmp, 1) := by decide +kernel
theorem dX0_putDifference_80 : decode cX0_putDifference 80 = .ok (.ifCond .ge 7, 3) := by decide +kernel
theorem dX0_putDifference_83 : decode cX0_putDifference 83 = .ok (.lconst 1, 1) := by decide +kernel
theorem dX0_putDifference_84 : decode cX0_putDifference 84 = .ok (.goto 4, 3) := by decide +kernel
theorem dX0_putDifference_87 : decode cX0_putDifference 87 = .ok (.lconst 0, 1) := by decide +kernel
theorem dX0_putDifference_88 : decode cX0_putDifference 88 = .ok (.lstore 5, 2) := by decide +kernel
theorem dX0_putDifference_90 : decode cX0_putDifference 90 = .ok (.iinc 7 1, 3) := by decide +kernel
theorem dX0_putDifference_93 : decode cX0_putDifference 93 = .ok (.goto (-64), 3) := by decide +kernel
theorem dX0_putDifference_96 : decode cX0_putDifference 96 = .ok (.iload 4, 2) := by decide +kernel
theorem dX0_putDifference_98 : decode cX0_putDifference 98 = .ok (.istore 7, 2) := by decide +kernel
theorem dX0_putDifference_100 : decode cX0_putDifference 100 = .ok (.iload 7, 2) := by decide +kernel
theorem dX0_putDifference_102 : decode cX0_putDifference 102 = .ok (.iload_n 3, 1) := by decide +kernel
theorem dX0_putDifference_103 : decode cX0_putDifference 103 = .ok (.if_icmp .ge 50, 3) := by decide +kernel
theorem dX0_putDifference_106 : decode cX0_putDifference 106 = .ok (.aload_n 1, 1) := by decide +kernel
theorem dX0_putDifference_107 : decode cX0_putDifference 107 = .ok (.getfield 17, 3) := by decide +kernel
theorem dX0_putDifference_110 : decode cX0_putDifference 110 = .ok (.iload 7, 2) := by decide +kernel
theorem dX0_putDifference_112 : decode cX0_putDifference 112 = .ok (.iaload, 1) := by decide +kernel
theorem dX0_putDifference_113 : decode cX0_putDifference 113 = .ok (.i2l, 1) := by decide +kernel
theorem dX0_putDifference_114 : decode cX0_putDifference 114 = .ok (.ldc2_w 33, 3) := by decide +kernel
theorem dX0_putDifference_117 : decode cX0_putDifference 117 = .ok (.land, 1) := by decide +kernel
theorem dX0_putDifference_118 : decode cX0_putDifference 118 = .ok (.lload 5, 2) := by decide +kernel
theorem dX0_putDifference_120 : decode cX0_putDifference 120 = .ok (.lsub, 1) := by decide +kernel
theorem dX0_putDifference_121 : decode cX0_putDifference 121 = .ok (.lstore 8, 2) := by decide +kernel
theorem dX0_putDifference_123 : decode cX0_putDifference 123 = .ok (.aload_n 0, 1) := by decide +kernel
theorem dX0_putDifference_124 : decode cX0_putDifference 124 = .ok (.getfield 17, 3) := by decide +kernel
theorem dX0_putDifference_127 : decode cX0_putDifference 127 = .ok (.iload 7, 2) := by decide +kernel
theorem dX0_putDifference_129 : decode cX0_putDifference 129 = .ok (.lload 8, 2) := by decide +kernel
theorem dX0_putDifference_131 : decode cX0_putDifference 131 = .ok (.l2i, 1) := by decide +kernel
theorem dX0_putDifference_132 : decode cX0_putDifference 132 = .ok (.iastore, 1) := by decide +kernel
theorem dX0_putDifference_133 : decode cX0_putDifference 133 = .ok (.lload 8, 2) := by decide +kernel
theorem dX0_putDifference_135 : decode cX0_putDifference 135 = .ok (.lconst 0, 1) := by decide +kernel
theorem dX0_putDifference_136 : decode cX0_putDifference 136 = .ok (.lcmp, 1) := by decide +kernel
theorem dX0_putDifference_137 : decode cX0_putDifference 137 = .ok (.ifCond .ge 7, 3) := by decide +kernel
theorem dX0_putDifference_140 : decode cX0_putDifference 140 = .ok (.lconst 1, 1) := by decide +kernel
theorem dX0_putDifference_141 : decode cX0_putDifference 141 = .ok (.goto 4, 3) := by decide +kernel
theorem dX0_putDifference_144 : decode cX0_putDifference 144 = .ok (.lconst 0, 1) := by decide +kernel
theorem dX0_putDifference_145 : decode cX0_putDifference 145 = .ok (.lstore 5, 2) := by decide +kernel
theorem dX0_putDifference_147 : decode cX0_putDifference 147 = .ok (.iinc 7 1, 3) := by decide +kernel
theorem dX0_putDifference_150 : decode cX0_putDifference 150 = .ok (.goto (-50), 3) := by decide +kernel
theorem dX0_putDifference_153 : decode cX0_putDifference 153 = .ok (.aload_n 0, 1) := by decide +kernel
theorem dX0_putDifference_154 : decode cX0_putDifference 154 = .ok (.iload_n 3, 1) := by decide +kernel
theorem dX0_putDifference_155 : decode cX0_putDifference 155 = .ok (.invokevirtual 58, 3) := by decide +kernel
theorem dX0_putDifference_158 : decode cX0_putDifference 158 = .ok (.return_, 1) := by decide +kernel
set_option maxRecDepth 20000 in
theorem ggX0_putProduct_X0_digit : GoodIn wsX0_putProduct wsX0_digit := goodIn_s _ [(12, 1), (1, 2), (13, 1), (22, 3)] rfl (by decide +kernel)
set_option maxRecDepth 20000 in
theorem gX0_putProduct_X0_digit : GoodIn wsX0_putProduct (wsV RX0 35 RX0 yX0_digit wsX0_digit) := goodIn_app (goodIn_r _ [8, 9, 10, 11] rfl (by decide +kernel)) ggX0_putProduct_X0_digit
set_option maxRecDepth 20000 in
theorem ggX0_putProduct_X0_addMultiple : GoodIn wsX0_putProduct wsX0_addMultiple := goodIn_s _ [(17, 1), (1, 1), (3, 4), (2, 1), (13, 1), (22, 3)] rfl (by decide +kernel)
set_option maxRecDepth 20000 in
theorem gX0_putProduct_X0_addMultiple : GoodIn wsX0_putProduct (wsV RX0 62 RX0 yX0_addMultiple wsX0_addMultiple) := goodIn_app (goodIn_r _ [14, 15, 16, 11] rfl (by decide +kernel)) ggX0_putProduct_X0_addMultiple
set_option maxRecDepth 20000 in
theorem ggX0_putProduct_X0_trim : GoodIn wsX0_putProduct wsX0_trim := goodIn_s _ [(21, 1), (1, 2), (7, 1), (22, 3)] rfl (by decide +kernel)
set_option maxRecDepth 20000 in
theorem gX0_putProduct_X0_trim : GoodIn wsX0_putProduct (wsV RX0 58 RX0 yX0_trim wsX0_trim) := goodIn_app (goodIn_r _ [18, 19, 20, 11] rfl (by decide +kernel)) ggX0_putProduct_X0_trim
theorem dX0_putProduct_0 : decode cX0_putProduct 0 = .ok (.aload_n 1, 1) := by decide +kernel
theorem dX0_putProduct_1 : decode cX0_putProduct 1 = .ok (.getfield 7, 3) := by decide +kernel
theorem dX0_putProduct_4 : decode cX0_putProduct 4 = .ok (.aload_n 2, 1) := by decide +kernel
theorem dX0_putProduct_5 : decode cX0_putProduct 5 = .ok (.getfield 7, 3) := by decide +kernel
theorem dX0_putProduct_8 : decode cX0_putProduct 8 = .ok (.iadd, 1) := by decide +kernel
theorem dX0_putProduct_9 : decode cX0_putProduct 9 = .ok (.aload_n 0, 1) := by decide +kernel
theorem dX0_putProduct_10 : decode cX0_putProduct 10 = .ok (.getfield 17, 3) := by decide +kernel
theorem dX0_putProduct_13 : decode cX0_putProduct 13 = .ok (.arraylength, 1) := by decide +kernel
theorem dX0_putProduct_14 : decode cX0_putProduct 14 = .ok (.invokestatic 21, 3) := by decide +kernel
theorem dX0_putProduct_17 : decode cX0_putProduct 17 = .ok (.istore_n 3, 1) := by decide +kernel
theorem dX0_putProduct_18 : decode cX0_putProduct 18 = .ok (.iconst 0, 1) := by decide +kernel
theorem dX0_putProduct_19 : decode cX0_putProduct 19 = .ok (.istore 4, 2) := by decide +kernel
theorem dX0_putProduct_21 : decode cX0_putProduct 21 = .ok (.iload 4, 2) := by decide +kernel
theorem dX0_putProduct_23 : decode cX0_putProduct 23 = .ok (.iload_n 3, 1) := by decide +kernel
theorem dX0_putProduct_24 : decode cX0_putProduct 24 = .ok (.if_icmp .ge 17, 3) := by decide +kernel
theorem dX0_putProduct_27 : decode cX0_putProduct 27 = .ok (.aload_n 0, 1) := by decide +kernel
theorem dX0_putProduct_28 : decode cX0_putProduct 28 = .ok (.getfield 17, 3) := by decide +kernel
theorem dX0_putProduct_31 : decode cX0_putProduct 31 = .ok (.iload 4, 2) := by decide +kernel
theorem dX0_putProduct_33 : decode cX0_putProduct 33 = .ok (.iconst 0, 1) := by decide +kernel
theorem dX0_putProduct_34 : decode cX0_putProduct 34 = .ok (.iastore, 1) := by decide +kernel
theorem dX0_putProduct_35 : decode cX0_putProduct 35 = .ok (.iinc 4 1, 3) := by decide +kernel
theorem dX0_putProduct_38 : decode cX0_putProduct 38 = .ok (.goto (-17), 3) := by decide +kernel
theorem dX0_putProduct_41 : decode cX0_putProduct 41 = .ok (.iconst 0, 1) := by decide +kernel
theorem dX0_putProduct_42 : decode cX0_putProduct 42 = .ok (.istore 4, 2) := by decide +kernel
theorem dX0_putProduct_44 : decode cX0_putProduct 44 = .ok (.iload 4, 2) := by decide +kernel
theorem dX0_putProduct_46 : decode cX0_putProduct 46 = .ok (.aload_n 1, 1) := by decide +kernel
theorem dX0_putProduct_47 : decode cX0_putProduct 47 = .ok (.getfield 7, 3) := by decide +kernel
theorem dX0_putProduct_50 : decode cX0_putProduct 50 = .ok (.if_icmp .ge 29, 3) := by decide +kernel
theorem dX0_putProduct_53 : decode cX0_putProduct 53 = .ok (.iload 4, 2) := by decide +kernel
theorem dX0_putProduct_55 : decode cX0_putProduct 55 = .ok (.iload_n 3, 1) := by decide +kernel
theorem dX0_putProduct_56 : decode cX0_putProduct 56 = .ok (.if_icmp .ge 23, 3) := by decide +kernel
theorem dX0_putProduct_59 : decode cX0_putProduct 59 = .ok (.aload_n 0, 1) := by decide +kernel
theorem dX0_putProduct_60 : decode cX0_putProduct 60 = .ok (.aload_n 2, 1) := by decide +kernel
theorem dX0_putProduct_61 : decode cX0_putProduct 61 = .ok (.aload_n 1, 1) := by decide +kernel
theorem dX0_putProduct_62 : decode cX0_putProduct 62 = .ok (.iload 4, 2) := by decide +kernel
theorem dX0_putProduct_64 : decode cX0_putProduct 64 = .ok (.invokevirtual 35, 3) := by decide +kernel
theorem dX0_putProduct_67 : decode cX0_putProduct 67 = .ok (.iload 4, 2) := by decide +kernel
theorem dX0_putProduct_69 : decode cX0_putProduct 69 = .ok (.iload_n 3, 1) := by decide +kernel
theorem dX0_putProduct_70 : decode cX0_putProduct 70 = .ok (.invokevirtual 62, 3) := by decide +kernel
theorem dX0_putProduct_73 : decode cX0_putProduct 73 = .ok (.iinc 4 1, 3) := by decide +kernel
theorem dX0_putProduct_76 : decode cX0_putProduct 76 = .ok (.goto (-32), 3) := by decide +kernel
theorem dX0_putProduct_79 : decode cX0_putProduct 79 = .ok (.aload_n 0, 1) := by decide +kernel
theorem dX0_putProduct_80 : decode cX0_putProduct 80 = .ok (.aload_n 1, 1) := by decide +kernel
theorem dX0_putProduct_81 : decode cX0_putProduct 81 = .ok (.getfield 13, 3) := by decide +kernel
theorem dX0_putProduct_84 : decode cX0_putProduct 84 = .ok (.aload_n 2, 1) := by decide +kernel
theorem dX0_putProduct_85 : decode cX0_putProduct 85 = .ok (.getfield 13, 3) := by decide +kernel
theorem dX0_putProduct_88 : decode cX0_putProduct 88 = .ok (.if_icmp .eq 7, 3) := by decide +kernel
theorem dX0_putProduct_91 : decode cX0_putProduct 91 = .ok (.iconst 1, 1) := by decide +kernel
theorem dX0_putProduct_92 : decode cX0_putProduct 92 = .ok (.goto 4, 3) := by decide +kernel
theorem dX0_putProduct_95 : decode cX0_putProduct 95 = .ok (.iconst 0, 1) := by decide +kernel
theorem dX0_putProduct_96 : decode cX0_putProduct 96 = .ok (.putfield 13, 3) := by decide +kernel
theorem dX0_putProduct_99 : decode cX0_putProduct 99 = .ok (.aload_n 0, 1) := by decide +kernel
theorem dX0_putProduct_100 : decode cX0_putProduct 100 = .ok (.iload_n 3, 1) := by decide +kernel
theorem dX0_putProduct_101 : decode cX0_putProduct 101 = .ok (.invokevirtual 58, 3) := by decide +kernel
theorem dX0_putProduct_104 : decode cX0_putProduct 104 = .ok (.return_, 1) := by decide +kernel
theorem dX0_addMultiple_0 : decode cX0_addMultiple 0 = .ok (.iload 4, 2) := by decide +kernel
theorem dX0_addMultiple_2 : decode cX0_addMultiple 2 = .ok (.aload_n 1, 1) := by decide +kernel
theorem dX0_addMultiple_3 : decode cX0_addMultiple 3 = .ok (.getfield 7, 3) := by decide +kernel
theorem dX0_addMultiple_6 : decode cX0_addMultiple 6 = .ok (.iadd, 1) := by decide +kernel
theorem dX0_addMultiple_7 : decode cX0_addMultiple 7 = .ok (.iload 5, 2) := by decide +kernel
theorem dX0_addMultiple_9 : decode cX0_addMultiple 9 = .ok (.invokestatic 21, 3) := by decide +kernel
theorem dX0_addMultiple_12 : decode cX0_addMultiple 12 = .ok (.istore 6, 2) := by decide +kernel
theorem dX0_addMultiple_14 : decode cX0_addMultiple 14 = .ok (.lconst 0, 1) := by decide +kernel
theorem dX0_addMultiple_15 : decode cX0_addMultiple 15 = .ok (.lstore 7, 2) := by decide +kernel
theorem dX0_addMultiple_17 : decode cX0_addMultiple 17 = .ok (.iload 4, 2) := by decide +kernel
theorem dX0_addMultiple_19 : decode cX0_addMultiple 19 = .ok (.istore 9, 2) := by decide +kernel
theorem dX0_addMultiple_21 : decode cX0_addMultiple 21 = .ok (.iload 9, 2) := by decide +kernel
theorem dX0_addMultiple_23 : decode cX0_addMultiple 23 = .ok (.iload 6, 2) := by decide +kernel
theorem dX0_addMultiple_25 : decode cX0_addMultiple 25 = .ok (.if_icmp .ge 61, 3) := by decide +kernel
theorem dX0_addMultiple_28 : decode cX0_addMultiple 28 = .ok (.lload 7, 2) := by decide +kernel
theorem dX0_addMultiple_30 : decode cX0_addMultiple 30 = .ok (.lload_n 2, 1) := by decide +kernel
theorem dX0_addMultiple_31 : decode cX0_addMultiple 31 = .ok (.aload_n 1, 1) := by decide +kernel
theorem dX0_addMultiple_32 : decode cX0_addMultiple 32 = .ok (.getfield 17, 3) := by decide +kernel
theorem dX0_addMultiple_35 : decode cX0_addMultiple 35 = .ok (.iload 9, 2) := by decide +kernel
theorem dX0_addMultiple_37 : decode cX0_addMultiple 37 = .ok (.iload 4, 2) := by decide +kernel
theorem dX0_addMultiple_39 : decode cX0_addMultiple 39 = .ok (.isub, 1) := by decide +kernel
theorem dX0_addMultiple_40 : decode cX0_addMultiple 40 = .ok (.iaload, 1) := by decide +kernel
theorem dX0_addMultiple_41 : decode cX0_addMultiple 41 = .ok (.i2l, 1) := by decide +kernel
theorem dX0_addMultiple_42 : decode cX0_addMultiple 42 = .ok (.ldc2_w 33, 3) := by decide +kernel
theorem dX0_addMultiple_45 : decode cX0_addMultiple 45 = .ok (.land, 1) := by decide +kernel
theorem dX0_addMultiple_46 : decode cX0_addMultiple 46 = .ok (.lmul, 1) := by decide +kernel
theorem dX0_addMultiple_47 : decode cX0_addMultiple 47 = .ok (.aload_n 0, 1) := by decide +kernel
theorem dX0_addMultiple_48 : decode cX0_addMultiple 48 = .ok (.getfield 17, 3) := by decide +kernel
theorem dX0_addMultiple_51 : decode cX0_addMultiple 51 = .ok (.iload 9, 2) := by decide +kernel
theorem dX0_addMultiple_53 : decode cX0_addMultiple 53 = .ok (.iaload, 1) := by decide +kernel
theorem dX0_addMultiple_54 : decode cX0_addMultiple 54 = .ok (.i2l, 1) := by decide +kernel
theorem dX0_addMultiple_55 : decode cX0_addMultiple 55 = .ok (.ldc2_w 33, 3) := by decide +kernel
theorem dX0_addMultiple_58 : decode cX0_addMultiple 58 = .ok (.land, 1) := by decide +kernel
theorem dX0_addMultiple_59 : decode cX0_addMultiple 59 = .ok (.ladd, 1) := by decide +kernel
theorem dX0_addMultiple_60 : decode cX0_addMultiple 60 = .ok (.ladd, 1) := by decide +kernel
theorem dX0_addMultiple_61 : decode cX0_addMultiple 61 = .ok (.lstore 7, 2) := by decide +kernel
theorem dX0_addMultiple_63 : decode cX0_addMultiple 63 = .ok (.aload_n 0, 1) := by decide +kernel
theorem dX0_addMultiple_64 : decode cX0_addMultiple 64 = .ok (.getfield 17, 3) := by decide +kernel
theorem dX0_addMultiple_67 : decode cX0_addMultiple 67 = .ok (.iload 9, 2) := by decide +kernel
theorem dX0_addMultiple_69 : decode cX0_addMultiple 69 = .ok (.lload 7, 2) := by decide +kernel
theorem dX0_addMultiple_71 : decode cX0_addMultiple 71 = .ok (.l2i, 1) := by decide +kernel
theorem dX0_addMultiple_72 : decode cX0_addMultiple 72 = .ok (.iastore, 1) := by decide +kernel
theorem dX0_addMultiple_73 : decode cX0_addMultiple 73 = .ok (.lload 7, 2) := by decide +kernel
theorem dX0_addMultiple_75 : decode cX0_addMultiple 75 = .ok (.bipush 32, 2) := by decide +kernel
theorem dX0_addMultiple_77 : decode cX0_addMultiple 77 = .ok (.lushr, 1) := by decide +kernel
theorem dX0_addMultiple_78 : decode cX0_addMultiple 78 = .ok (.lstore 7, 2) := by decide +kernel
theorem dX0_addMultiple_80 : decode cX0_addMultiple 80 = .ok (.iinc 9 1, 3) := by decide +kernel
theorem dX0_addMultiple_83 : decode cX0_addMultiple 83 = .ok (.goto (-62), 3) := by decide +kernel
theorem dX0_addMultiple_86 : decode cX0_addMultiple 86 = .ok (.iload 6, 2) := by decide +kernel
theorem dX0_addMultiple_88 : decode cX0_addMultiple 88 = .ok (.iload 5, 2) := by decide +kernel
theorem dX0_addMultiple_90 : decode cX0_addMultiple 90 = .ok (.if_icmp .ge 13, 3) := by decide +kernel
theorem dX0_addMultiple_93 : decode cX0_addMultiple 93 = .ok (.aload_n 0, 1) := by decide +kernel
theorem dX0_addMultiple_94 : decode cX0_addMultiple 94 = .ok (.getfield 17, 3) := by decide +kernel
theorem dX0_addMultiple_97 : decode cX0_addMultiple 97 = .ok (.iload 6, 2) := by decide +kernel
theorem dX0_addMultiple_99 : decode cX0_addMultiple 99 = .ok (.lload 7, 2) := by decide +kernel
theorem dX0_addMultiple_101 : decode cX0_addMultiple 101 = .ok (.l2i, 1) := by decide +kernel
theorem dX0_addMultiple_102 : decode cX0_addMultiple 102 = .ok (.iastore, 1) := by decide +kernel
theorem dX0_addMultiple_103 : decode cX0_addMultiple 103 = .ok (.return_, 1) := by decide +kernel
set_option maxRecDepth 20000 in
theorem ggX0_scale_X0_trim : GoodIn wsX0_scale wsX0_trim := goodIn_s _ [(8, 1), (1, 2), (9, 4)] rfl (by decide +kernel)
set_option maxRecDepth 20000 in
theorem gX0_scale_X0_trim : GoodIn wsX0_scale (wsV RX0 58 RX0 yX0_trim wsX0_trim) := goodIn_app (goodIn_r _ [4, 5, 6, 7] rfl (by decide +kernel)) ggX0_scale_X0_trim
theorem dX0_scale_0 : decode cX0_scale 0 = .ok (.lconst 0, 1) := by decide +kernel
theorem dX0_scale_1 : decode cX0_scale 1 = .ok (.lstore_n 3, 1) := by decide +kernel
theorem dX0_scale_2 : decode cX0_scale 2 = .ok (.aload_n 0, 1) := by decide +kernel
theorem dX0_scale_3 : decode cX0_scale 3 = .ok (.getfield 7, 3) := by decide +kernel
theorem dX0_scale_6 : decode cX0_scale 6 = .ok (.istore 5, 2) := by decide +kernel
theorem dX0_scale_8 : decode cX0_scale 8 = .ok (.iconst 0, 1) := by decide +kernel
theorem dX0_scale_9 : decode cX0_scale 9 = .ok (.istore 6, 2) := by decide +kernel
theorem dX0_scale_11 : decode cX0_scale 11 = .ok (.iload 6, 2) := by decide +kernel
theorem dX0_scale_13 : decode cX0_scale 13 = .ok (.iload 5, 2) := by decide +kernel
theorem dX0_scale_15 : decode cX0_scale 15 = .ok (.if_icmp .ge 40, 3) := by decide +kernel
theorem dX0_scale_18 : decode cX0_scale 18 = .ok (.lload_n 3, 1) := by decide +kernel
theorem dX0_scale_19 : decode cX0_scale 19 = .ok (.lload_n 1, 1) := by decide +kernel
theorem dX0_scale_20 : decode cX0_scale 20 = .ok (.aload_n 0, 1) := by decide +kernel
theorem dX0_scale_21 : decode cX0_scale 21 = .ok (.getfield 17, 3) := by decide +kernel
theorem dX0_scale_24 : decode cX0_scale 24 = .ok (.iload 6, 2) := by decide +kernel
theorem dX0_scale_26 : decode cX0_scale 26 = .ok (.iaload, 1) := by decide +kernel
theorem dX0_scale_27 : decode cX0_scale 27 = .ok (.i2l, 1) := by decide +kernel
theorem dX0_scale_28 : decode cX0_scale 28 = .ok (.ldc2_w 33, 3) := by decide +kernel
theorem dX0_scale_31 : decode cX0_scale 31 = .ok (.land, 1) := by decide +kernel
theorem dX0_scale_32 : decode cX0_scale 32 = .ok (.lmul, 1) := by decide +kernel
theorem dX0_scale_33 : decode cX0_scale 33 = .ok (.ladd, 1) := by decide +kernel
theorem dX0_scale_34 : decode cX0_scale 34 = .ok (.lstore_n 3, 1) := by decide +kernel
theorem dX0_scale_35 : decode cX0_scale 35 = .ok (.aload_n 0, 1) := by decide +kernel
theorem dX0_scale_36 : decode cX0_scale 36 = .ok (.getfield 17, 3) := by decide +kernel
theorem dX0_scale_39 : decode cX0_scale 39 = .ok (.iload 6, 2) := by decide +kernel
theorem dX0_scale_41 : decode cX0_scale 41 = .ok (.lload_n 3, 1) := by decide +kernel
theorem dX0_scale_42 : decode cX0_scale 42 = .ok (.l2i, 1) := by decide +kernel
theorem dX0_scale_43 : decode cX0_scale 43 = .ok (.iastore, 1) := by decide +kernel
theorem dX0_scale_44 : decode cX0_scale 44 = .ok (.lload_n 3, 1) := by decide +kernel
theorem dX0_scale_45 : decode cX0_scale 45 = .ok (.bipush 32, 2) := by decide +kernel
theorem dX0_scale_47 : decode cX0_scale 47 = .ok (.lushr, 1) := by decide +kernel
theorem dX0_scale_48 : decode cX0_scale 48 = .ok (.lstore_n 3, 1) := by decide +kernel
theorem dX0_scale_49 : decode cX0_scale 49 = .ok (.iinc 6 1, 3) := by decide +kernel
theorem dX0_scale_52 : decode cX0_scale 52 = .ok (.goto (-41), 3) := by decide +kernel
theorem dX0_scale_55 : decode cX0_scale 55 = .ok (.lload_n 3, 1) := by decide +kernel
theorem dX0_scale_56 : decode cX0_scale 56 = .ok (.lconst 0, 1) := by decide +kernel
theorem dX0_scale_57 : decode cX0_scale 57 = .ok (.lcmp, 1) := by decide +kernel
theorem dX0_scale_58 : decode cX0_scale 58 = .ok (.ifCond .eq 25, 3) := by decide +kernel
theorem dX0_scale_61 : decode cX0_scale 61 = .ok (.iload 5, 2) := by decide +kernel
theorem dX0_scale_63 : decode cX0_scale 63 = .ok (.aload_n 0, 1) := by decide +kernel
theorem dX0_scale_64 : decode cX0_scale 64 = .ok (.getfield 17, 3) := by decide +kernel
theorem dX0_scale_67 : decode cX0_scale 67 = .ok (.arraylength, 1) := by decide +kernel
theorem dX0_scale_68 : decode cX0_scale 68 = .ok (.if_icmp .ge 15, 3) := by decide +kernel
theorem dX0_scale_71 : decode cX0_scale 71 = .ok (.aload_n 0, 1) := by decide +kernel
theorem dX0_scale_72 : decode cX0_scale 72 = .ok (.getfield 17, 3) := by decide +kernel
theorem dX0_scale_75 : decode cX0_scale 75 = .ok (.iload 5, 2) := by decide +kernel
theorem dX0_scale_77 : decode cX0_scale 77 = .ok (.lload_n 3, 1) := by decide +kernel
theorem dX0_scale_78 : decode cX0_scale 78 = .ok (.l2i, 1) := by decide +kernel
theorem dX0_scale_79 : decode cX0_scale 79 = .ok (.iastore, 1) := by decide +kernel
theorem dX0_scale_80 : decode cX0_scale 80 = .ok (.iinc 5 1, 3) := by decide +kernel
theorem dX0_scale_83 : decode cX0_scale 83 = .ok (.aload_n 0, 1) := by decide +kernel
theorem dX0_scale_84 : decode cX0_scale 84 = .ok (.iload 5, 2) := by decide +kernel
theorem dX0_scale_86 : decode cX0_scale 86 = .ok (.invokevirtual 58, 3) := by decide +kernel
theorem dX0_scale_89 : decode cX0_scale 89 = .ok (.return_, 1) := by decide +kernel
set_option maxRecDepth 20000 in
theorem ggX0_divideBySmall_X0_digit : GoodIn wsX0_divideBySmall wsX0_digit := goodIn_s _ [(7, 1), (1, 2), (8, 1), (14, 3)] rfl (by decide +kernel)
set_option maxRecDepth 20000 in
theorem gX0_divideBySmall_X0_digit : GoodIn wsX0_divideBySmall (wsV RX0 35 RX0 yX0_digit wsX0_digit) := goodIn_app (goodIn_r _ [3, 4, 5, 6] rfl (by decide +kernel)) ggX0_divideBySmall_X0_digit
