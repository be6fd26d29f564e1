set_option maxRecDepth 20000 in
theorem ggX12_least_X12_isLeast : GoodIn wsX12_least wsX12_isLeast := goodIn_r _ [7, 8, 9, 10, 11, 12, 13, 14, 15, 16, 17, 18, 19, 20, 21, 22, 23, 24, 25, 26, 27, 28, 29, 30, 31, 32, 33, 34, 35, 36, 37, 38, 39, 40, 41, 42] (by decide +kernel) (by decide +kernel)
set_option maxRecDepth 20000 in
theorem gX12_least_X12_isLeast : GoodIn wsX12_least (wsV RX12 142 RX12 yX12_isLeast wsX12_isLeast) := goodIn_app (goodIn_of _ (by decide +kernel)) ggX12_least_X12_isLeast
theorem dX12_least_0 : decode cX12_least 0 = .ok (.aload_n 0, 1) := by decide +kernel
theorem dX12_least_1 : decode cX12_least 1 = .ok (.getfield 26, 3) := by decide +kernel
theorem dX12_least_4 : decode cX12_least 4 = .ok (.bipush (-9), 2) := by decide +kernel
theorem dX12_least_6 : decode cX12_least 6 = .ok (.if_icmp .ne 6, 3) := by decide +kernel
theorem dX12_least_9 : decode cX12_least 9 = .ok (.bipush (-3), 2) := by decide +kernel
theorem dX12_least_11 : decode cX12_least 11 = .ok (.ireturn, 1) := by decide +kernel
theorem dX12_least_12 : decode cX12_least 12 = .ok (.iconst 0, 1) := by decide +kernel
theorem dX12_least_13 : decode cX12_least 13 = .ok (.istore_n 1, 1) := by decide +kernel
theorem dX12_least_14 : decode cX12_least 14 = .ok (.iconst 0, 1) := by decide +kernel
theorem dX12_least_15 : decode cX12_least 15 = .ok (.istore_n 2, 1) := by decide +kernel
theorem dX12_least_16 : decode cX12_least 16 = .ok (.iload_n 2, 1) := by decide +kernel
theorem dX12_least_17 : decode cX12_least 17 = .ok (.aload_n 0, 1) := by decide +kernel
theorem dX12_least_18 : decode cX12_least 18 = .ok (.getfield 122, 3) := by decide +kernel
theorem dX12_least_21 : decode cX12_least 21 = .ok (.if_icmp .ge 25, 3) := by decide +kernel
theorem dX12_least_24 : decode cX12_least 24 = .ok (.iload_n 1, 1) := by decide +kernel
theorem dX12_least_25 : decode cX12_least 25 = .ok (.aload_n 0, 1) := by decide +kernel
theorem dX12_least_26 : decode cX12_least 26 = .ok (.iload_n 2, 1) := by decide +kernel
theorem dX12_least_27 : decode cX12_least 27 = .ok (.invokevirtual 142, 3) := by decide +kernel
theorem dX12_least_30 : decode cX12_least 30 = .ok (.ifCond .eq 7, 3) := by decide +kernel
theorem dX12_least_33 : decode cX12_least 33 = .ok (.iconst 1, 1) := by decide +kernel
theorem dX12_least_34 : decode cX12_least 34 = .ok (.goto 4, 3) := by decide +kernel
theorem dX12_least_37 : decode cX12_least 37 = .ok (.iconst 0, 1) := by decide +kernel
theorem dX12_least_38 : decode cX12_least 38 = .ok (.iadd, 1) := by decide +kernel
theorem dX12_least_39 : decode cX12_least 39 = .ok (.istore_n 1, 1) := by decide +kernel
theorem dX12_least_40 : decode cX12_least 40 = .ok (.iinc 2 1, 3) := by decide +kernel
theorem dX12_least_43 : decode cX12_least 43 = .ok (.goto (-27), 3) := by decide +kernel
theorem dX12_least_46 : decode cX12_least 46 = .ok (.iload_n 1, 1) := by decide +kernel
theorem dX12_least_47 : decode cX12_least 47 = .ok (.ireturn, 1) := by decide +kernel
set_option maxRecDepth 20000 in
theorem ggX12_length_X12_isSlot : GoodIn wsX12_length wsX12_isSlot := goodIn_r _ [5, 6, 7, 8, 4, 9] (by decide +kernel) (by decide +kernel)
set_option maxRecDepth 20000 in
theorem gX12_length_X12_isSlot : GoodIn wsX12_length (va_wsS RX12 102 yX12_isSlot wsX12_isSlot) := goodIn_app (goodIn_of _ (by decide +kernel)) ggX12_length_X12_isSlot
theorem dX12_length_0 : decode cX12_length 0 = .ok (.iload_n 1, 1) := by decide +kernel
theorem dX12_length_1 : decode cX12_length 1 = .ok (.invokestatic 102, 3) := by decide +kernel
theorem dX12_length_4 : decode cX12_length 4 = .ok (.ifCond .eq 12, 3) := by decide +kernel
theorem dX12_length_7 : decode cX12_length 7 = .ok (.aload_n 0, 1) := by decide +kernel
theorem dX12_length_8 : decode cX12_length 8 = .ok (.getfield 13, 3) := by decide +kernel
theorem dX12_length_11 : decode cX12_length 11 = .ok (.iload_n 1, 1) := by decide +kernel
theorem dX12_length_12 : decode cX12_length 12 = .ok (.iaload, 1) := by decide +kernel
theorem dX12_length_13 : decode cX12_length 13 = .ok (.goto 4, 3) := by decide +kernel
theorem dX12_length_16 : decode cX12_length 16 = .ok (.iconst (-1), 1) := by decide +kernel
theorem dX12_length_17 : decode cX12_length 17 = .ok (.ireturn, 1) := by decide +kernel
set_option maxRecDepth 20000 in
theorem ggX12_letter_X12_in : GoodIn wsX12_letter wsX12_in := goodIn_r _ [7] (by decide +kernel) (by decide +kernel)
set_option maxRecDepth 20000 in
theorem gX12_letter_X12_in : GoodIn wsX12_letter (va_wsS RX12 93 yX12_in wsX12_in) := goodIn_app (goodIn_of _ (by decide +kernel)) ggX12_letter_X12_in
theorem dX12_letter_0 : decode cX12_letter 0 = .ok (.iload_n 1, 1) := by decide +kernel
theorem dX12_letter_1 : decode cX12_letter 1 = .ok (.i2l, 1) := by decide +kernel
theorem dX12_letter_2 : decode cX12_letter 2 = .ok (.lconst 0, 1) := by decide +kernel
theorem dX12_letter_3 : decode cX12_letter 3 = .ok (.aload_n 0, 1) := by decide +kernel
theorem dX12_letter_4 : decode cX12_letter 4 = .ok (.getfield 7, 3) := by decide +kernel
theorem dX12_letter_7 : decode cX12_letter 7 = .ok (.iconst 1, 1) := by decide +kernel
theorem dX12_letter_8 : decode cX12_letter 8 = .ok (.isub, 1) := by decide +kernel
theorem dX12_letter_9 : decode cX12_letter 9 = .ok (.i2l, 1) := by decide +kernel
theorem dX12_letter_10 : decode cX12_letter 10 = .ok (.invokestatic 93, 3) := by decide +kernel
theorem dX12_letter_13 : decode cX12_letter 13 = .ok (.ifCond .ne 5, 3) := by decide +kernel
theorem dX12_letter_16 : decode cX12_letter 16 = .ok (.iconst (-1), 1) := by decide +kernel
theorem dX12_letter_17 : decode cX12_letter 17 = .ok (.ireturn, 1) := by decide +kernel
theorem dX12_letter_18 : decode cX12_letter 18 = .ok (.aload_n 0, 1) := by decide +kernel
theorem dX12_letter_19 : decode cX12_letter 19 = .ok (.getfield 13, 3) := by decide +kernel
theorem dX12_letter_22 : decode cX12_letter 22 = .ok (.bipush 8, 2) := by decide +kernel
theorem dX12_letter_24 : decode cX12_letter 24 = .ok (.iaload, 1) := by decide +kernel
theorem dX12_letter_25 : decode cX12_letter 25 = .ok (.bipush 60, 2) := by decide +kernel
theorem dX12_letter_27 : decode cX12_letter 27 = .ok (.if_icmp .ne 6, 3) := by decide +kernel
theorem dX12_letter_30 : decode cX12_letter 30 = .ok (.bipush (-4), 2) := by decide +kernel
theorem dX12_letter_32 : decode cX12_letter 32 = .ok (.ireturn, 1) := by decide +kernel
theorem dX12_letter_33 : decode cX12_letter 33 = .ok (.aload_n 0, 1) := by decide +kernel
theorem dX12_letter_34 : decode cX12_letter 34 = .ok (.getfield 17, 3) := by decide +kernel
theorem dX12_letter_37 : decode cX12_letter 37 = .ok (.sipush 1024, 3) := by decide +kernel
theorem dX12_letter_40 : decode cX12_letter 40 = .ok (.aload_n 0, 1) := by decide +kernel
theorem dX12_letter_41 : decode cX12_letter 41 = .ok (.getfield 13, 3) := by decide +kernel
theorem dX12_letter_44 : decode cX12_letter 44 = .ok (.bipush 8, 2) := by decide +kernel
theorem dX12_letter_46 : decode cX12_letter 46 = .ok (.iaload, 1) := by decide +kernel
theorem dX12_letter_47 : decode cX12_letter 47 = .ok (.iadd, 1) := by decide +kernel
theorem dX12_letter_48 : decode cX12_letter 48 = .ok (.iload_n 1, 1) := by decide +kernel
theorem dX12_letter_49 : decode cX12_letter 49 = .ok (.iastore, 1) := by decide +kernel
theorem dX12_letter_50 : decode cX12_letter 50 = .ok (.aload_n 0, 1) := by decide +kernel
theorem dX12_letter_51 : decode cX12_letter 51 = .ok (.getfield 13, 3) := by decide +kernel
theorem dX12_letter_54 : decode cX12_letter 54 = .ok (.bipush 8, 2) := by decide +kernel
theorem dX12_letter_56 : decode cX12_letter 56 = .ok (.dup2, 1) := by decide +kernel
theorem dX12_letter_57 : decode cX12_letter 57 = .ok (.iaload, 1) := by decide +kernel
theorem dX12_letter_58 : decode cX12_letter 58 = .ok (.iconst 1, 1) := by decide +kernel
theorem dX12_letter_59 : decode cX12_letter 59 = .ok (.iadd, 1) := by decide +kernel
theorem dX12_letter_60 : decode cX12_letter 60 = .ok (.iastore, 1) := by decide +kernel
theorem dX12_letter_61 : decode cX12_letter 61 = .ok (.aload_n 0, 1) := by decide +kernel
theorem dX12_letter_62 : decode cX12_letter 62 = .ok (.getfield 13, 3) := by decide +kernel
theorem dX12_letter_65 : decode cX12_letter 65 = .ok (.bipush 8, 2) := by decide +kernel
theorem dX12_letter_67 : decode cX12_letter 67 = .ok (.iaload, 1) := by decide +kernel
theorem dX12_letter_68 : decode cX12_letter 68 = .ok (.ireturn, 1) := by decide +kernel
set_option maxRecDepth 20000 in
theorem ggX12_letters_X12_in : GoodIn wsX12_letters wsX12_in := goodIn_r _ [9] (by decide +kernel) (by decide +kernel)
set_option maxRecDepth 20000 in
theorem gX12_letters_X12_in : GoodIn wsX12_letters (va_wsS RX12 93 yX12_in wsX12_in) := goodIn_app (goodIn_of _ (by decide +kernel)) ggX12_letters_X12_in
theorem dX12_letters_0 : decode cX12_letters 0 = .ok (.iload_n 1, 1) := by decide +kernel
theorem dX12_letters_1 : decode cX12_letters 1 = .ok (.i2l, 1) := by decide +kernel
theorem dX12_letters_2 : decode cX12_letters 2 = .ok (.lconst 1, 1) := by decide +kernel
theorem dX12_letters_3 : decode cX12_letters 3 = .ok (.ldc2_w 97, 3) := by decide +kernel
theorem dX12_letters_6 : decode cX12_letters 6 = .ok (.invokestatic 93, 3) := by decide +kernel
theorem dX12_letters_9 : decode cX12_letters 9 = .ok (.ifCond .ne 6, 3) := by decide +kernel
theorem dX12_letters_12 : decode cX12_letters 12 = .ok (.bipush (-2), 2) := by decide +kernel
theorem dX12_letters_14 : decode cX12_letters 14 = .ok (.ireturn, 1) := by decide +kernel
theorem dX12_letters_15 : decode cX12_letters 15 = .ok (.aload_n 0, 1) := by decide +kernel
theorem dX12_letters_16 : decode cX12_letters 16 = .ok (.getfield 7, 3) := by decide +kernel
theorem dX12_letters_19 : decode cX12_letters 19 = .ok (.istore_n 2, 1) := by decide +kernel
theorem dX12_letters_20 : decode cX12_letters 20 = .ok (.aload_n 0, 1) := by decide +kernel
theorem dX12_letters_21 : decode cX12_letters 21 = .ok (.iload_n 1, 1) := by decide +kernel
theorem dX12_letters_22 : decode cX12_letters 22 = .ok (.putfield 7, 3) := by decide +kernel
theorem dX12_letters_25 : decode cX12_letters 25 = .ok (.iconst 0, 1) := by decide +kernel
theorem dX12_letters_26 : decode cX12_letters 26 = .ok (.istore_n 3, 1) := by decide +kernel
theorem dX12_letters_27 : decode cX12_letters 27 = .ok (.iload_n 3, 1) := by decide +kernel
theorem dX12_letters_28 : decode cX12_letters 28 = .ok (.bipush 13, 2) := by decide +kernel
theorem dX12_letters_30 : decode cX12_letters 30 = .ok (.if_icmp .ge 16, 3) := by decide +kernel
theorem dX12_letters_33 : decode cX12_letters 33 = .ok (.aload_n 0, 1) := by decide +kernel
theorem dX12_letters_34 : decode cX12_letters 34 = .ok (.getfield 13, 3) := by decide +kernel
theorem dX12_letters_37 : decode cX12_letters 37 = .ok (.iload_n 3, 1) := by decide +kernel
theorem dX12_letters_38 : decode cX12_letters 38 = .ok (.iconst 0, 1) := by decide +kernel
theorem dX12_letters_39 : decode cX12_letters 39 = .ok (.iastore, 1) := by decide +kernel
theorem dX12_letters_40 : decode cX12_letters 40 = .ok (.iinc 3 1, 3) := by decide +kernel
theorem dX12_letters_43 : decode cX12_letters 43 = .ok (.goto (-16), 3) := by decide +kernel
theorem dX12_letters_46 : decode cX12_letters 46 = .ok (.aload_n 0, 1) := by decide +kernel
theorem dX12_letters_47 : decode cX12_letters 47 = .ok (.iconst 0, 1) := by decide +kernel
theorem dX12_letters_48 : decode cX12_letters 48 = .ok (.putfield 99, 3) := by decide +kernel
theorem dX12_letters_51 : decode cX12_letters 51 = .ok (.aload_n 0, 1) := by decide +kernel
theorem dX12_letters_52 : decode cX12_letters 52 = .ok (.bipush (-9), 2) := by decide +kernel
theorem dX12_letters_54 : decode cX12_letters 54 = .ok (.putfield 26, 3) := by decide +kernel
theorem dX12_letters_57 : decode cX12_letters 57 = .ok (.iload_n 2, 1) := by decide +kernel
theorem dX12_letters_58 : decode cX12_letters 58 = .ok (.ireturn, 1) := by decide +kernel
set_option maxRecDepth 20000 in
theorem ggX12_like_X12_isSlot : GoodIn wsX12_like wsX12_isSlot := goodIn_r _ [4, 5, 6, 7, 3, 8] (by decide +kernel) (by decide +kernel)
set_option maxRecDepth 20000 in
theorem gX12_like_X12_isSlot : GoodIn wsX12_like (va_wsS RX12 102 yX12_isSlot wsX12_isSlot) := goodIn_app (goodIn_of _ (by decide +kernel)) ggX12_like_X12_isSlot
set_option maxRecDepth 20000 in
theorem ggX12_like_X12_reduced : GoodIn wsX12_like wsX12_reduced := goodIn_r _ [12, 13, 14, 15, 16, 17, 18, 19, 20, 21, 22, 23, 3, 24, 25, 26, 27, 28, 29, 30, 31, 32, 33, 34, 35, 36, 37, 38, 39, 40, 41, 42, 43, 44, 45, 46, 47, 52, 53, 54, 55, 56, 57, 58, 59, 60, 61, 62, 63, 64, 65, 66, 67, 68, 69, 70, 71, 72, 73, 74, 75, 76, 77, 78, 79, 80, 81, 82, 83, 84, 85] rfl (by decide +kernel)
set_option maxRecDepth 20000 in
theorem gX12_like_X12_reduced : GoodIn wsX12_like (wsV RX12 222 RX12 yX12_reduced wsX12_reduced) := goodIn_app (goodIn_of _ (by decide +kernel)) ggX12_like_X12_reduced
set_option maxRecDepth 20000 in
theorem ggX12_like_X12_isSame : GoodIn wsX12_like wsX12_isSame := goodIn_r _ [51, 15, 17, 52, 53, 54, 55, 56, 57, 58, 59, 60, 61, 62, 63, 64, 65, 66, 67, 68, 69, 70, 71, 72, 73, 74, 75, 76, 77, 78, 79, 80, 81, 82, 83, 84, 85] (by decide +kernel) (by decide +kernel)
set_option maxRecDepth 20000 in
theorem gX12_like_X12_isSame : GoodIn wsX12_like (wsV RX12 170 RX12 yX12_isSame wsX12_isSame) := goodIn_app (goodIn_of _ (by decide +kernel)) ggX12_like_X12_isSame
theorem dX12_like_0 : decode cX12_like 0 = .ok (.iload_n 1, 1) := by decide +kernel
theorem dX12_like_1 : decode cX12_like 1 = .ok (.invokestatic 102, 3) := by decide +kernel
theorem dX12_like_4 : decode cX12_like 4 = .ok (.ifCond .eq 10, 3) := by decide +kernel
theorem dX12_like_7 : decode cX12_like 7 = .ok (.iload_n 2, 1) := by decide +kernel
theorem dX12_like_8 : decode cX12_like 8 = .ok (.invokestatic 102, 3) := by decide +kernel
theorem dX12_like_11 : decode cX12_like 11 = .ok (.ifCond .ne 5, 3) := by decide +kernel
theorem dX12_like_14 : decode cX12_like 14 = .ok (.iconst (-1), 1) := by decide +kernel
theorem dX12_like_15 : decode cX12_like 15 = .ok (.ireturn, 1) := by decide +kernel
theorem dX12_like_16 : decode cX12_like 16 = .ok (.aload_n 0, 1) := by decide +kernel
theorem dX12_like_17 : decode cX12_like 17 = .ok (.iload_n 1, 1) := by decide +kernel
theorem dX12_like_18 : decode cX12_like 18 = .ok (.bipush 9, 2) := by decide +kernel
theorem dX12_like_20 : decode cX12_like 20 = .ok (.invokevirtual 222, 3) := by decide +kernel
theorem dX12_like_23 : decode cX12_like 23 = .ok (.istore_n 3, 1) := by decide +kernel
theorem dX12_like_24 : decode cX12_like 24 = .ok (.iload_n 3, 1) := by decide +kernel
theorem dX12_like_25 : decode cX12_like 25 = .ok (.ifCond .ge 7, 3) := by decide +kernel
theorem dX12_like_28 : decode cX12_like 28 = .ok (.iload_n 3, 1) := by decide +kernel
theorem dX12_like_29 : decode cX12_like 29 = .ok (.goto 10, 3) := by decide +kernel
theorem dX12_like_32 : decode cX12_like 32 = .ok (.aload_n 0, 1) := by decide +kernel
theorem dX12_like_33 : decode cX12_like 33 = .ok (.iload_n 2, 1) := by decide +kernel
theorem dX12_like_34 : decode cX12_like 34 = .ok (.bipush 10, 2) := by decide +kernel
theorem dX12_like_36 : decode cX12_like 36 = .ok (.invokevirtual 222, 3) := by decide +kernel
theorem dX12_like_39 : decode cX12_like 39 = .ok (.istore_n 3, 1) := by decide +kernel
theorem dX12_like_40 : decode cX12_like 40 = .ok (.iload_n 3, 1) := by decide +kernel
theorem dX12_like_41 : decode cX12_like 41 = .ok (.ifCond .ge 7, 3) := by decide +kernel
theorem dX12_like_44 : decode cX12_like 44 = .ok (.iload_n 3, 1) := by decide +kernel
theorem dX12_like_45 : decode cX12_like 45 = .ok (.goto 19, 3) := by decide +kernel
theorem dX12_like_48 : decode cX12_like 48 = .ok (.aload_n 0, 1) := by decide +kernel
theorem dX12_like_49 : decode cX12_like 49 = .ok (.bipush 9, 2) := by decide +kernel
theorem dX12_like_51 : decode cX12_like 51 = .ok (.bipush 10, 2) := by decide +kernel
theorem dX12_like_53 : decode cX12_like 53 = .ok (.invokevirtual 170, 3) := by decide +kernel
theorem dX12_like_56 : decode cX12_like 56 = .ok (.ifCond .eq 7, 3) := by decide +kernel
theorem dX12_like_59 : decode cX12_like 59 = .ok (.iconst 1, 1) := by decide +kernel
theorem dX12_like_60 : decode cX12_like 60 = .ok (.goto 4, 3) := by decide +kernel
theorem dX12_like_63 : decode cX12_like 63 = .ok (.iconst 0, 1) := by decide +kernel
theorem dX12_like_64 : decode cX12_like 64 = .ok (.ireturn, 1) := by decide +kernel
set_option maxRecDepth 20000 in
theorem ggX12_longest_X12_next : GoodIn wsX12_longest wsX12_next := goodIn_r _ [9, 10, 11, 12, 13, 14, 15, 16, 17, 18, 19, 20, 21, 22, 23, 24, 25, 26, 27, 28, 29, 30, 31, 32, 33, 34, 35, 36, 37, 38, 39, 40, 41, 42, 43, 44, 45, 46, 47] rfl (by decide +kernel)
set_option maxRecDepth 20000 in
theorem gX12_longest_X12_next : GoodIn wsX12_longest (wsV RX12 226 RX12 yX12_next wsX12_next) := goodIn_app (goodIn_of _ (by decide +kernel)) ggX12_longest_X12_next
theorem dX12_longest_0 : decode cX12_longest 0 = .ok (.iconst 0, 1) := by decide +kernel
theorem dX12_longest_1 : decode cX12_longest 1 = .ok (.istore_n 1, 1) := by decide +kernel
theorem dX12_longest_2 : decode cX12_longest 2 = .ok (.iload_n 1, 1) := by decide +kernel
theorem dX12_longest_3 : decode cX12_longest 3 = .ok (.aload_n 0, 1) := by decide +kernel
theorem dX12_longest_4 : decode cX12_longest 4 = .ok (.getfield 164, 3) := by decide +kernel
theorem dX12_longest_7 : decode cX12_longest 7 = .ok (.if_icmp .ge 24, 3) := by decide +kernel
theorem dX12_longest_10 : decode cX12_longest 10 = .ok (.aload_n 0, 1) := by decide +kernel
theorem dX12_longest_11 : decode cX12_longest 11 = .ok (.getfield 78, 3) := by decide +kernel
theorem dX12_longest_14 : decode cX12_longest 14 = .ok (.iload_n 1, 1) := by decide +kernel
theorem dX12_longest_15 : decode cX12_longest 15 = .ok (.iload_n 1, 1) := by decide +kernel
theorem dX12_longest_16 : decode cX12_longest 16 = .ok (.ifCond .ne 7, 3) := by decide +kernel
theorem dX12_longest_19 : decode cX12_longest 19 = .ok (.iconst 1, 1) := by decide +kernel
theorem dX12_longest_20 : decode cX12_longest 20 = .ok (.goto 4, 3) := by decide +kernel
theorem dX12_longest_23 : decode cX12_longest 23 = .ok (.iconst 0, 1) := by decide +kernel
theorem dX12_longest_24 : decode cX12_longest 24 = .ok (.bastore, 1) := by decide +kernel
theorem dX12_longest_25 : decode cX12_longest 25 = .ok (.iinc 1 1, 3) := by decide +kernel
theorem dX12_longest_28 : decode cX12_longest 28 = .ok (.goto (-26), 3) := by decide +kernel
theorem dX12_longest_31 : decode cX12_longest 31 = .ok (.iconst 0, 1) := by decide +kernel
theorem dX12_longest_32 : decode cX12_longest 32 = .ok (.istore_n 1, 1) := by decide +kernel
theorem dX12_longest_33 : decode cX12_longest 33 = .ok (.iload_n 1, 1) := by decide +kernel
theorem dX12_longest_34 : decode cX12_longest 34 = .ok (.aload_n 0, 1) := by decide +kernel
theorem dX12_longest_35 : decode cX12_longest 35 = .ok (.getfield 164, 3) := by decide +kernel
theorem dX12_longest_38 : decode cX12_longest 38 = .ok (.if_icmp .gt 137, 3) := by decide +kernel
theorem dX12_longest_41 : decode cX12_longest 41 = .ok (.iconst 0, 1) := by decide +kernel
theorem dX12_longest_42 : decode cX12_longest 42 = .ok (.istore_n 2, 1) := by decide +kernel
theorem dX12_longest_43 : decode cX12_longest 43 = .ok (.iconst 0, 1) := by decide +kernel
theorem dX12_longest_44 : decode cX12_longest 44 = .ok (.istore_n 3, 1) := by decide +kernel
theorem dX12_longest_45 : decode cX12_longest 45 = .ok (.iload_n 3, 1) := by decide +kernel
theorem dX12_longest_46 : decode cX12_longest 46 = .ok (.aload_n 0, 1) := by decide +kernel
theorem dX12_longest_47 : decode cX12_longest 47 = .ok (.getfield 164, 3) := by decide +kernel
theorem dX12_longest_50 : decode cX12_longest 50 = .ok (.if_icmp .ge 16, 3) := by decide +kernel
theorem dX12_longest_53 : decode cX12_longest 53 = .ok (.aload_n 0, 1) := by decide +kernel
theorem dX12_longest_54 : decode cX12_longest 54 = .ok (.getfield 82, 3) := by decide +kernel
theorem dX12_longest_57 : decode cX12_longest 57 = .ok (.iload_n 3, 1) := by decide +kernel
theorem dX12_longest_58 : decode cX12_longest 58 = .ok (.iconst 0, 1) := by decide +kernel
theorem dX12_longest_59 : decode cX12_longest 59 = .ok (.bastore, 1) := by decide +kernel
theorem dX12_longest_60 : decode cX12_longest 60 = .ok (.iinc 3 1, 3) := by decide +kernel
theorem dX12_longest_63 : decode cX12_longest 63 = .ok (.goto (-18), 3) := by decide +kernel
theorem dX12_longest_66 : decode cX12_longest 66 = .ok (.iconst 0, 1) := by decide +kernel
theorem dX12_longest_67 : decode cX12_longest 67 = .ok (.istore_n 3, 1) := by decide +kernel
theorem dX12_longest_68 : decode cX12_longest 68 = .ok (.iload_n 3, 1) := by decide +kernel
theorem dX12_longest_69 : decode cX12_longest 69 = .ok (.aload_n 0, 1) := by decide +kernel
theorem dX12_longest_70 : decode cX12_longest 70 = .ok (.getfield 164, 3) := by decide +kernel
theorem dX12_longest_73 : decode cX12_longest 73 = .ok (.if_icmp .ge 62, 3) := by decide +kernel
theorem dX12_longest_76 : decode cX12_longest 76 = .ok (.iconst 0, 1) := by decide +kernel
theorem dX12_longest_77 : decode cX12_longest 77 = .ok (.istore 4, 2) := by decide +kernel
theorem dX12_longest_79 : decode cX12_longest 79 = .ok (.iload 4, 2) := by decide +kernel
theorem dX12_longest_81 : decode cX12_longest 81 = .ok (.aload_n 0, 1) := by decide +kernel
theorem dX12_longest_82 : decode cX12_longest 82 = .ok (.getfield 7, 3) := by decide +kernel
theorem dX12_longest_85 : decode cX12_longest 85 = .ok (.if_icmp .ge 44, 3) := by decide +kernel
theorem dX12_longest_88 : decode cX12_longest 88 = .ok (.aload_n 0, 1) := by decide +kernel
theorem dX12_longest_89 : decode cX12_longest 89 = .ok (.getfield 78, 3) := by decide +kernel
theorem dX12_longest_92 : decode cX12_longest 92 = .ok (.iload_n 3, 1) := by decide +kernel
theorem dX12_longest_93 : decode cX12_longest 93 = .ok (.baload, 1) := by decide +kernel
theorem dX12_longest_94 : decode cX12_longest 94 = .ok (.ifCond .eq 35, 3) := by decide +kernel
theorem dX12_longest_97 : decode cX12_longest 97 = .ok (.aload_n 0, 1) := by decide +kernel
theorem dX12_longest_98 : decode cX12_longest 98 = .ok (.iload_n 3, 1) := by decide +kernel
theorem dX12_longest_99 : decode cX12_longest 99 = .ok (.iload 4, 2) := by decide +kernel
theorem dX12_longest_101 : decode cX12_longest 101 = .ok (.invokevirtual 226, 3) := by decide +kernel
theorem dX12_longest_104 : decode cX12_longest 104 = .ok (.istore 5, 2) := by decide +kernel
theorem dX12_longest_106 : decode cX12_longest 106 = .ok (.iload 5, 2) := by decide +kernel
theorem dX12_longest_108 : decode cX12_longest 108 = .ok (.bipush (-9), 2) := by decide +kernel
theorem dX12_longest_110 : decode cX12_longest 110 = .ok (.if_icmp .eq 13, 3) := by decide +kernel
theorem dX12_longest_113 : decode cX12_longest 113 = .ok (.aload_n 0, 1) := by decide +kernel
theorem dX12_longest_114 : decode cX12_longest 114 = .ok (.getfield 82, 3) := by decide +kernel
theorem dX12_longest_117 : decode cX12_longest 117 = .ok (.iload 5, 2) := by decide +kernel
theorem dX12_longest_119 : decode cX12_longest 119 = .ok (.iconst 1, 1) := by decide +kernel
theorem dX12_longest_120 : decode cX12_longest 120 = .ok (.bastore, 1) := by decide +kernel
theorem dX12_longest_121 : decode cX12_longest 121 = .ok (.iconst 1, 1) := by decide +kernel
theorem dX12_longest_122 : decode cX12_longest 122 = .ok (.istore_n 2, 1) := by decide +kernel
theorem dX12_longest_123 : decode cX12_longest 123 = .ok (.iinc 4 1, 3) := by decide +kernel
theorem dX12_longest_126 : decode cX12_longest 126 = .ok (.goto (-47), 3) := by decide +kernel
theorem dX12_longest_129 : decode cX12_longest 129 = .ok (.iinc 3 1, 3) := by decide +kernel
theorem dX12_longest_132 : decode cX12_longest 132 = .ok (.goto (-64), 3) := by decide +kernel
theorem dX12_longest_135 : decode cX12_longest 135 = .ok (.iload_n 2, 1) := by decide +kernel
theorem dX12_longest_136 : decode cX12_longest 136 = .ok (.ifCond .ne 5, 3) := by decide +kernel
theorem dX12_longest_139 : decode cX12_longest 139 = .ok (.iload_n 1, 1) := by decide +kernel
theorem dX12_longest_140 : decode cX12_longest 140 = .ok (.ireturn, 1) := by decide +kernel
theorem dX12_longest_141 : decode cX12_longest 141 = .ok (.iconst 0, 1) := by decide +kernel
theorem dX12_longest_142 : decode cX12_longest 142 = .ok (.istore_n 3, 1) := by decide +kernel
theorem dX12_longest_143 : decode cX12_longest 143 = .ok (.iload_n 3, 1) := by decide +kernel
theorem dX12_longest_144 : decode cX12_longest 144 = .ok (.aload_n 0, 1) := by decide +kernel
theorem dX12_longest_145 : decode cX12_longest 145 = .ok (.getfield 164, 3) := by decide +kernel
theorem dX12_longest_148 : decode cX12_longest 148 = .ok (.if_icmp .ge 21, 3) := by decide +kernel
theorem dX12_longest_151 : decode cX12_longest 151 = .ok (.aload_n 0, 1) := by decide +kernel
theorem dX12_longest_152 : decode cX12_longest 152 = .ok (.getfield 78, 3) := by decide +kernel
theorem dX12_longest_155 : decode cX12_longest 155 = .ok (.iload_n 3, 1) := by decide +kernel
theorem dX12_longest_156 : decode cX12_longest 156 = .ok (.aload_n 0, 1) := by decide +kernel
theorem dX12_longest_157 : decode cX12_longest 157 = .ok (.getfield 82, 3) := by decide +kernel
theorem dX12_longest_160 : decode cX12_longest 160 = .ok (.iload_n 3, 1) := by decide +kernel
theorem dX12_longest_161 : decode cX12_longest 161 = .ok (.baload, 1) := by decide +kernel
theorem dX12_longest_162 : decode cX12_longest 162 = .ok (.bastore, 1) := by decide +kernel
theorem dX12_longest_163 : decode cX12_longest 163 = .ok (.iinc 3 1, 3) := by decide +kernel
theorem dX12_longest_166 : decode cX12_longest 166 = .ok (.goto (-23), 3) := by decide +kernel
theorem dX12_longest_169 : decode cX12_longest 169 = .ok (.iinc 1 1, 3) := by decide +kernel
theorem dX12_longest_172 : decode cX12_longest 172 = .ok (.goto (-139), 3) := by decide +kernel
theorem dX12_longest_175 : decode cX12_longest 175 = .ok (.bipush (-9), 2) := by decide +kernel
theorem dX12_longest_177 : decode cX12_longest 177 = .ok (.ireturn, 1) := by decide +kernel
set_option maxRecDepth 20000 in
theorem ggX12_makes_X12_isSlot : GoodIn wsX12_makes wsX12_isSlot := goodIn_r _ [8, 9, 10, 11, 7, 12] (by decide +kernel) (by decide +kernel)
set_option maxRecDepth 20000 in
theorem gX12_makes_X12_isSlot : GoodIn wsX12_makes (va_wsS RX12 102 yX12_isSlot wsX12_isSlot) := goodIn_app (goodIn_of _ (by decide +kernel)) ggX12_makes_X12_isSlot
set_option maxRecDepth 20000 in
theorem ggX12_makes_X12_isMachine : GoodIn wsX12_makes wsX12_isMachine := goodIn_r _ [16, 17, 18, 54, 55, 56, 57, 58, 59, 60, 61, 62, 63, 64, 65, 66, 67, 68, 69, 70, 71, 72, 73, 74, 75, 76, 77, 78, 79, 80, 81, 82, 83, 84, 85, 86, 87] (by decide +kernel) (by decide +kernel)
set_option maxRecDepth 20000 in
theorem gX12_makes_X12_isMachine : GoodIn wsX12_makes (wsV RX12 229 RX12 yX12_isMachine wsX12_isMachine) := goodIn_app (goodIn_of _ (by decide +kernel)) ggX12_makes_X12_isMachine
set_option maxRecDepth 20000 in
theorem ggX12_makes_X12_copy : GoodIn wsX12_makes wsX12_copy := goodIn_r _ [22, 2, 23, 54, 55, 56, 57, 58, 59, 60, 61, 62, 63, 64, 65, 66, 67, 68, 69, 70, 71, 72, 73, 74, 75, 76, 77, 78, 79, 80, 81, 82, 83, 84, 85, 86, 87] (by decide +kernel) (by decide +kernel)
set_option maxRecDepth 20000 in
theorem gX12_makes_X12_copy : GoodIn wsX12_makes (wsV RX12 106 RX12 yX12_copy wsX12_copy) := goodIn_app (goodIn_of _ (by decide +kernel)) ggX12_makes_X12_copy
set_option maxRecDepth 20000 in
theorem ggX12_makes_X12_reduceAt : GoodIn wsX12_makes wsX12_reduceAt := goodIn_r _ [27, 2, 23, 28, 29, 30, 31, 32, 33, 54, 55, 56, 57, 58, 59, 60, 61, 62, 63, 64, 65, 66, 67, 68, 69, 70, 71, 72, 73, 74, 75, 76, 77, 78, 79, 80, 81, 82, 83, 84, 85, 86, 87] rfl (by decide +kernel)
set_option maxRecDepth 20000 in
theorem gX12_makes_X12_reduceAt : GoodIn wsX12_makes (wsV RX12 167 RX12 yX12_reduceAt wsX12_reduceAt) := goodIn_app (goodIn_of _ (by decide +kernel)) ggX12_makes_X12_reduceAt
set_option maxRecDepth 20000 in
theorem ggX12_makes_X12_keepMade : GoodIn wsX12_makes wsX12_keepMade := goodIn_r _ [37, 4, 1, 2, 3, 23, 54, 55, 56, 57, 58, 59, 60, 61, 62, 63, 64, 65, 66, 67, 68, 69, 70, 71, 72, 73, 74, 75, 76, 77, 78, 79, 80, 81, 82, 83, 84, 85, 86, 87] rfl (by decide +kernel)
set_option maxRecDepth 20000 in
theorem gX12_makes_X12_keepMade : GoodIn wsX12_makes (wsV RX12 266 RX12 yX12_keepMade wsX12_keepMade) := goodIn_app (goodIn_of _ (by decide +kernel)) ggX12_makes_X12_keepMade
set_option maxRecDepth 20000 in
theorem ggX12_makes_X12_put : GoodIn wsX12_makes wsX12_put := goodIn_r _ [41, 23, 2, 54, 55, 56, 57, 58, 59, 60, 61, 62, 63, 64, 65, 66, 67, 68, 69, 70, 71, 72, 73, 74, 75, 76, 77, 78, 79, 80, 81, 82, 83, 84, 85, 86, 87] (by decide +kernel) (by decide +kernel)
set_option maxRecDepth 20000 in
theorem gX12_makes_X12_put : GoodIn wsX12_makes (wsV RX12 174 RX12 yX12_put wsX12_put) := goodIn_app (goodIn_of _ (by decide +kernel)) ggX12_makes_X12_put
set_option maxRecDepth 20000 in
theorem ggX12_makes_X12_times : GoodIn wsX12_makes wsX12_times := goodIn_r _ [45, 2, 46, 47, 48, 7, 49, 23, 24, 25, 26, 27, 28, 29, 30, 31, 32, 33, 54, 55, 56, 57, 58, 59, 60, 61, 62, 63, 64, 65, 66, 67, 68, 69, 70, 71, 72, 73, 74, 75, 76, 77, 78, 79, 80, 81, 82, 83, 84, 85, 86, 87] rfl (by decide +kernel)
set_option maxRecDepth 20000 in
theorem gX12_makes_X12_times : GoodIn wsX12_makes (wsV RX12 260 RX12 yX12_times wsX12_times) := goodIn_app (goodIn_of _ (by decide +kernel)) ggX12_makes_X12_times
set_option maxRecDepth 20000 in
theorem ggX12_makes_X12_isMade : GoodIn wsX12_makes wsX12_isMade := goodIn_r _ [53, 1, 4, 2, 3, 23, 54, 55, 56, 57, 58, 59, 60, 61, 62, 63, 64, 65, 66, 67, 68, 69, 70, 71, 72, 73, 74, 75, 76, 77, 78, 79, 80, 81, 82, 83, 84, 85, 86, 87] rfl (by decide +kernel)
set_option maxRecDepth 20000 in
theorem gX12_makes_X12_isMade : GoodIn wsX12_makes (wsV RX12 269 RX12 yX12_isMade wsX12_isMade) := goodIn_app (goodIn_of _ (by decide +kernel)) ggX12_makes_X12_isMade
theorem dX12_makes_0 : decode cX12_makes 0 = .ok (.iload_n 1, 1) := by decide +kernel
theorem dX12_makes_1 : decode cX12_makes 1 = .ok (.invokestatic 102, 3) := by decide +kernel
theorem dX12_makes_4 : decode cX12_makes 4 = .ok (.ifCond .eq 10, 3) := by decide +kernel
theorem dX12_makes_7 : decode cX12_makes 7 = .ok (.iload_n 2, 1) := by decide +kernel
theorem dX12_makes_8 : decode cX12_makes 8 = .ok (.invokestatic 102, 3) := by decide +kernel
theorem dX12_makes_11 : decode cX12_makes 11 = .ok (.ifCond .ne 5, 3) := by decide +kernel
theorem dX12_makes_14 : decode cX12_makes 14 = .ok (.iconst (-1), 1) := by decide +kernel
theorem dX12_makes_15 : decode cX12_makes 15 = .ok (.ireturn, 1) := by decide +kernel
theorem dX12_makes_16 : decode cX12_makes 16 = .ok (.aload_n 0, 1) := by decide +kernel
theorem dX12_makes_17 : decode cX12_makes 17 = .ok (.invokevirtual 229, 3) := by decide +kernel
theorem dX12_makes_20 : decode cX12_makes 20 = .ok (.ifCond .ne 6, 3) := by decide +kernel
theorem dX12_makes_23 : decode cX12_makes 23 = .ok (.bipush (-3), 2) := by decide +kernel
theorem dX12_makes_25 : decode cX12_makes 25 = .ok (.ireturn, 1) := by decide +kernel
theorem dX12_makes_26 : decode cX12_makes 26 = .ok (.aload_n 0, 1) := by decide +kernel
theorem dX12_makes_27 : decode cX12_makes 27 = .ok (.iload_n 1, 1) := by decide +kernel
theorem dX12_makes_28 : decode cX12_makes 28 = .ok (.bipush 10, 2) := by decide +kernel
theorem dX12_makes_30 : decode cX12_makes 30 = .ok (.invokevirtual 106, 3) := by decide +kernel
theorem dX12_makes_33 : decode cX12_makes 33 = .ok (.aload_n 0, 1) := by decide +kernel
theorem dX12_makes_34 : decode cX12_makes 34 = .ok (.bipush 10, 2) := by decide +kernel
theorem dX12_makes_36 : decode cX12_makes 36 = .ok (.invokevirtual 167, 3) := by decide +kernel
theorem dX12_makes_39 : decode cX12_makes 39 = .ok (.aload_n 0, 1) := by decide +kernel
theorem dX12_makes_40 : decode cX12_makes 40 = .ok (.iload_n 2, 1) := by decide +kernel
theorem dX12_makes_41 : decode cX12_makes 41 = .ok (.bipush 12, 2) := by decide +kernel
theorem dX12_makes_43 : decode cX12_makes 43 = .ok (.invokevirtual 106, 3) := by decide +kernel
theorem dX12_makes_46 : decode cX12_makes 46 = .ok (.aload_n 0, 1) := by decide +kernel
theorem dX12_makes_47 : decode cX12_makes 47 = .ok (.bipush 12, 2) := by decide +kernel
theorem dX12_makes_49 : decode cX12_makes 49 = .ok (.invokevirtual 167, 3) := by decide +kernel
theorem dX12_makes_52 : decode cX12_makes 52 = .ok (.aload_n 0, 1) := by decide +kernel
theorem dX12_makes_53 : decode cX12_makes 53 = .ok (.iconst 0, 1) := by decide +kernel
theorem dX12_makes_54 : decode cX12_makes 54 = .ok (.putfield 263, 3) := by decide +kernel
theorem dX12_makes_57 : decode cX12_makes 57 = .ok (.aload_n 0, 1) := by decide +kernel
theorem dX12_makes_58 : decode cX12_makes 58 = .ok (.getfield 13, 3) := by decide +kernel
theorem dX12_makes_61 : decode cX12_makes 61 = .ok (.bipush 9, 2) := by decide +kernel
theorem dX12_makes_63 : decode cX12_makes 63 = .ok (.iconst 0, 1) := by decide +kernel
theorem dX12_makes_64 : decode cX12_makes 64 = .ok (.iastore, 1) := by decide +kernel
theorem dX12_makes_65 : decode cX12_makes 65 = .ok (.aload_n 0, 1) := by decide +kernel
theorem dX12_makes_66 : decode cX12_makes 66 = .ok (.invokevirtual 266, 3) := by decide +kernel
theorem dX12_makes_69 : decode cX12_makes 69 = .ok (.iconst 0, 1) := by decide +kernel
theorem dX12_makes_70 : decode cX12_makes 70 = .ok (.istore_n 3, 1) := by decide +kernel
theorem dX12_makes_71 : decode cX12_makes 71 = .ok (.iload_n 3, 1) := by decide +kernel
theorem dX12_makes_72 : decode cX12_makes 72 = .ok (.aload_n 0, 1) := by decide +kernel
theorem dX12_makes_73 : decode cX12_makes 73 = .ok (.getfield 263, 3) := by decide +kernel
theorem dX12_makes_76 : decode cX12_makes 76 = .ok (.if_icmp .ge 100, 3) := by decide +kernel
theorem dX12_makes_79 : decode cX12_makes 79 = .ok (.iconst 0, 1) := by decide +kernel
theorem dX12_makes_80 : decode cX12_makes 80 = .ok (.istore 4, 2) := by decide +kernel
theorem dX12_makes_82 : decode cX12_makes 82 = .ok (.iload 4, 2) := by decide +kernel
theorem dX12_makes_84 : decode cX12_makes 84 = .ok (.iconst 2, 1) := by decide +kernel
theorem dX12_makes_85 : decode cX12_makes 85 = .ok (.if_icmp .ge 85, 3) := by decide +kernel
theorem dX12_makes_88 : decode cX12_makes 88 = .ok (.aload_n 0, 1) := by decide +kernel
theorem dX12_makes_89 : decode cX12_makes 89 = .ok (.getfield 13, 3) := by decide +kernel
theorem dX12_makes_92 : decode cX12_makes 92 = .ok (.bipush 9, 2) := by decide +kernel
theorem dX12_makes_94 : decode cX12_makes 94 = .ok (.iconst 0, 1) := by decide +kernel
theorem dX12_makes_95 : decode cX12_makes 95 = .ok (.iastore, 1) := by decide +kernel
theorem dX12_makes_96 : decode cX12_makes 96 = .ok (.aload_n 0, 1) := by decide +kernel
theorem dX12_makes_97 : decode cX12_makes 97 = .ok (.bipush 9, 2) := by decide +kernel
theorem dX12_makes_99 : decode cX12_makes 99 = .ok (.aload_n 0, 1) := by decide +kernel
theorem dX12_makes_100 : decode cX12_makes 100 = .ok (.getfield 88, 3) := by decide +kernel
theorem dX12_makes_103 : decode cX12_makes 103 = .ok (.bipush 60, 2) := by decide +kernel
theorem dX12_makes_105 : decode cX12_makes 105 = .ok (.iload_n 3, 1) := by decide +kernel
theorem dX12_makes_106 : decode cX12_makes 106 = .ok (.imul, 1) := by decide +kernel
theorem dX12_makes_107 : decode cX12_makes 107 = .ok (.aload_n 0, 1) := by decide +kernel
theorem dX12_makes_108 : decode cX12_makes 108 = .ok (.getfield 85, 3) := by decide +kernel
theorem dX12_makes_111 : decode cX12_makes 111 = .ok (.iload_n 3, 1) := by decide +kernel
theorem dX12_makes_112 : decode cX12_makes 112 = .ok (.iaload, 1) := by decide +kernel
theorem dX12_makes_113 : decode cX12_makes 113 = .ok (.invokevirtual 174, 3) := by decide +kernel
theorem dX12_makes_116 : decode cX12_makes 116 = .ok (.aload_n 0, 1) := by decide +kernel
theorem dX12_makes_117 : decode cX12_makes 117 = .ok (.bipush 9, 2) := by decide +kernel
theorem dX12_makes_119 : decode cX12_makes 119 = .ok (.iload 4, 2) := by decide +kernel
theorem dX12_makes_121 : decode cX12_makes 121 = .ok (.ifCond .ne 8, 3) := by decide +kernel
theorem dX12_makes_124 : decode cX12_makes 124 = .ok (.bipush 10, 2) := by decide +kernel
theorem dX12_makes_126 : decode cX12_makes 126 = .ok (.goto 5, 3) := by decide +kernel
theorem dX12_makes_129 : decode cX12_makes 129 = .ok (.bipush 12, 2) := by decide +kernel
theorem dX12_makes_131 : decode cX12_makes 131 = .ok (.invokevirtual 260, 3) := by decide +kernel
theorem dX12_makes_134 : decode cX12_makes 134 = .ok (.ifCond .ne 6, 3) := by decide +kernel
theorem dX12_makes_137 : decode cX12_makes 137 = .ok (.bipush (-4), 2) := by decide +kernel
theorem dX12_makes_139 : decode cX12_makes 139 = .ok (.ireturn, 1) := by decide +kernel
theorem dX12_makes_140 : decode cX12_makes 140 = .ok (.aload_n 0, 1) := by decide +kernel
theorem dX12_makes_141 : decode cX12_makes 141 = .ok (.invokevirtual 269, 3) := by decide +kernel
theorem dX12_makes_144 : decode cX12_makes 144 = .ok (.ifCond .ne 20, 3) := by decide +kernel
theorem dX12_makes_147 : decode cX12_makes 147 = .ok (.aload_n 0, 1) := by decide +kernel
theorem dX12_makes_148 : decode cX12_makes 148 = .ok (.getfield 263, 3) := by decide +kernel
theorem dX12_makes_151 : decode cX12_makes 151 = .ok (.sipush 300, 3) := by decide +kernel
theorem dX12_makes_154 : decode cX12_makes 154 = .ok (.if_icmp .ne 6, 3) := by decide +kernel
theorem dX12_makes_157 : decode cX12_makes 157 = .ok (.bipush (-4), 2) := by decide +kernel
theorem dX12_makes_159 : decode cX12_makes 159 = .ok (.ireturn, 1) := by decide +kernel
theorem dX12_makes_160 : decode cX12_makes 160 = .ok (.aload_n 0, 1) := by decide +kernel
theorem dX12_makes_161 : decode cX12_makes 161 = .ok (.invokevirtual 266, 3) := by decide +kernel
theorem dX12_makes_164 : decode cX12_makes 164 = .ok (.iinc 4 1, 3) := by decide +kernel
theorem dX12_makes_167 : decode cX12_makes 167 = .ok (.goto (-85), 3) := by decide +kernel
theorem dX12_makes_170 : decode cX12_makes 170 = .ok (.iinc 3 1, 3) := by decide +kernel
theorem dX12_makes_173 : decode cX12_makes 173 = .ok (.goto (-102), 3) := by decide +kernel
theorem dX12_makes_176 : decode cX12_makes 176 = .ok (.aload_n 0, 1) := by decide +kernel
theorem dX12_makes_177 : decode cX12_makes 177 = .ok (.getfield 263, 3) := by decide +kernel
theorem dX12_makes_180 : decode cX12_makes 180 = .ok (.ireturn, 1) := by decide +kernel
set_option maxRecDepth 20000 in
theorem ggX12_meets_X12_reduceAt : GoodIn wsX12_meets wsX12_reduceAt := goodIn_r _ [5, 6, 7, 8, 9, 10, 11, 12, 13, 18, 19, 20, 21, 22, 23, 24, 25, 26, 27, 28, 29, 30, 31, 32, 33, 34, 35, 36, 37, 38, 39, 40, 41, 42, 43, 44, 45, 46, 47, 48, 49, 50, 51] rfl (by decide +kernel)
set_option maxRecDepth 20000 in
theorem gX12_meets_X12_reduceAt : GoodIn wsX12_meets (wsV RX12 167 RX12 yX12_reduceAt wsX12_reduceAt) := goodIn_app (goodIn_of _ (by decide +kernel)) ggX12_meets_X12_reduceAt
set_option maxRecDepth 20000 in
theorem ggX12_meets_X12_isSame : GoodIn wsX12_meets wsX12_isSame := goodIn_r _ [17, 6, 7, 18, 19, 20, 21, 22, 23, 24, 25, 26, 27, 28, 29, 30, 31, 32, 33, 34, 35, 36, 37, 38, 39, 40, 41, 42, 43, 44, 45, 46, 47, 48, 49, 50, 51] (by decide +kernel) (by decide +kernel)
set_option maxRecDepth 20000 in
theorem gX12_meets_X12_isSame : GoodIn wsX12_meets (wsV RX12 170 RX12 yX12_isSame wsX12_isSame) := goodIn_app (goodIn_of _ (by decide +kernel)) ggX12_meets_X12_isSame
theorem dX12_meets_0 : decode cX12_meets 0 = .ok (.aload_n 0, 1) := by decide +kernel
theorem dX12_meets_1 : decode cX12_meets 1 = .ok (.iload_n 1, 1) := by decide +kernel
theorem dX12_meets_2 : decode cX12_meets 2 = .ok (.invokevirtual 167, 3) := by decide +kernel
theorem dX12_meets_5 : decode cX12_meets 5 = .ok (.aload_n 0, 1) := by decide +kernel
theorem dX12_meets_6 : decode cX12_meets 6 = .ok (.iload_n 2, 1) := by decide +kernel
theorem dX12_meets_7 : decode cX12_meets 7 = .ok (.invokevirtual 167, 3) := by decide +kernel
theorem dX12_meets_10 : decode cX12_meets 10 = .ok (.aload_n 0, 1) := by decide +kernel
theorem dX12_meets_11 : decode cX12_meets 11 = .ok (.iload_n 1, 1) := by decide +kernel
theorem dX12_meets_12 : decode cX12_meets 12 = .ok (.iload_n 2, 1) := by decide +kernel
theorem dX12_meets_13 : decode cX12_meets 13 = .ok (.invokevirtual 170, 3) := by decide +kernel
theorem dX12_meets_16 : decode cX12_meets 16 = .ok (.ireturn, 1) := by decide +kernel
theorem dX12_newNode_0 : decode cX12_newNode 0 = .ok (.aload_n 0, 1) := by decide +kernel
theorem dX12_newNode_1 : decode cX12_newNode 1 = .ok (.getfield 157, 3) := by decide +kernel
theorem dX12_newNode_4 : decode cX12_newNode 4 = .ok (.istore_n 1, 1) := by decide +kernel
theorem dX12_newNode_5 : decode cX12_newNode 5 = .ok (.aload_n 0, 1) := by decide +kernel
theorem dX12_newNode_6 : decode cX12_newNode 6 = .ok (.dup, 1) := by decide +kernel
theorem dX12_newNode_7 : decode cX12_newNode 7 = .ok (.getfield 157, 3) := by decide +kernel
theorem dX12_newNode_10 : decode cX12_newNode 10 = .ok (.iconst 1, 1) := by decide +kernel
theorem dX12_newNode_11 : decode cX12_newNode 11 = .ok (.iadd, 1) := by decide +kernel
theorem dX12_newNode_12 : decode cX12_newNode 12 = .ok (.putfield 157, 3) := by decide +kernel
theorem dX12_newNode_15 : decode cX12_newNode 15 = .ok (.iconst 0, 1) := by decide +kernel
theorem dX12_newNode_16 : decode cX12_newNode 16 = .ok (.istore_n 2, 1) := by decide +kernel
theorem dX12_newNode_17 : decode cX12_newNode 17 = .ok (.iload_n 2, 1) := by decide +kernel
theorem dX12_newNode_18 : decode cX12_newNode 18 = .ok (.iconst 4, 1) := by decide +kernel
theorem dX12_newNode_19 : decode cX12_newNode 19 = .ok (.if_icmp .ge 21, 3) := by decide +kernel
theorem dX12_newNode_22 : decode cX12_newNode 22 = .ok (.aload_n 0, 1) := by decide +kernel
theorem dX12_newNode_23 : decode cX12_newNode 23 = .ok (.getfield 50, 3) := by decide +kernel
theorem dX12_newNode_26 : decode cX12_newNode 26 = .ok (.iconst 4, 1) := by decide +kernel
theorem dX12_newNode_27 : decode cX12_newNode 27 = .ok (.iload_n 1, 1) := by decide +kernel
theorem dX12_newNode_28 : decode cX12_newNode 28 = .ok (.imul, 1) := by decide +kernel
theorem dX12_newNode_29 : decode cX12_newNode 29 = .ok (.iload_n 2, 1) := by decide +kernel
theorem dX12_newNode_30 : decode cX12_newNode 30 = .ok (.iadd, 1) := by decide +kernel
theorem dX12_newNode_31 : decode cX12_newNode 31 = .ok (.bipush (-9), 2) := by decide +kernel
theorem dX12_newNode_33 : decode cX12_newNode 33 = .ok (.iastore, 1) := by decide +kernel
theorem dX12_newNode_34 : decode cX12_newNode 34 = .ok (.iinc 2 1, 3) := by decide +kernel
theorem dX12_newNode_37 : decode cX12_newNode 37 = .ok (.goto (-20), 3) := by decide +kernel
theorem dX12_newNode_40 : decode cX12_newNode 40 = .ok (.aload_n 0, 1) := by decide +kernel
theorem dX12_newNode_41 : decode cX12_newNode 41 = .ok (.getfield 59, 3) := by decide +kernel
theorem dX12_newNode_44 : decode cX12_newNode 44 = .ok (.iload_n 1, 1) := by decide +kernel
theorem dX12_newNode_45 : decode cX12_newNode 45 = .ok (.bipush (-9), 2) := by decide +kernel
theorem dX12_newNode_47 : decode cX12_newNode 47 = .ok (.iastore, 1) := by decide +kernel
theorem dX12_newNode_48 : decode cX12_newNode 48 = .ok (.iload_n 1, 1) := by decide +kernel
theorem dX12_newNode_49 : decode cX12_newNode 49 = .ok (.ireturn, 1) := by decide +kernel
theorem dX12_next_0 : decode cX12_next 0 = .ok (.aload_n 0, 1) := by decide +kernel
theorem dX12_next_1 : decode cX12_next 1 = .ok (.getfield 53, 3) := by decide +kernel
theorem dX12_next_4 : decode cX12_next 4 = .ok (.iconst 4, 1) := by decide +kernel
theorem dX12_next_5 : decode cX12_next 5 = .ok (.aload_n 0, 1) := by decide +kernel
theorem dX12_next_6 : decode cX12_next 6 = .ok (.getfield 68, 3) := by decide +kernel
theorem dX12_next_9 : decode cX12_next 9 = .ok (.iload_n 1, 1) := by decide +kernel
theorem dX12_next_10 : decode cX12_next 10 = .ok (.iaload, 1) := by decide +kernel
theorem dX12_next_11 : decode cX12_next 11 = .ok (.imul, 1) := by decide +kernel
theorem dX12_next_12 : decode cX12_next 12 = .ok (.iload_n 2, 1) := by decide +kernel
theorem dX12_next_13 : decode cX12_next 13 = .ok (.iadd, 1) := by decide +kernel
theorem dX12_next_14 : decode cX12_next 14 = .ok (.iaload, 1) := by decide +kernel
theorem dX12_next_15 : decode cX12_next 15 = .ok (.istore_n 3, 1) := by decide +kernel
theorem dX12_next_16 : decode cX12_next 16 = .ok (.aload_n 0, 1) := by decide +kernel
theorem dX12_next_17 : decode cX12_next 17 = .ok (.getfield 59, 3) := by decide +kernel
theorem dX12_next_20 : decode cX12_next 20 = .ok (.iload_n 3, 1) := by decide +kernel
theorem dX12_next_21 : decode cX12_next 21 = .ok (.iaload, 1) := by decide +kernel
theorem dX12_next_22 : decode cX12_next 22 = .ok (.bipush (-9), 2) := by decide +kernel
theorem dX12_next_24 : decode cX12_next 24 = .ok (.if_icmp .ne 12, 3) := by decide +kernel
theorem dX12_next_27 : decode cX12_next 27 = .ok (.aload_n 0, 1) := by decide +kernel
theorem dX12_next_28 : decode cX12_next 28 = .ok (.getfield 65, 3) := by decide +kernel
theorem dX12_next_31 : decode cX12_next 31 = .ok (.iload_n 3, 1) := by decide +kernel
theorem dX12_next_32 : decode cX12_next 32 = .ok (.iaload, 1) := by decide +kernel
theorem dX12_next_33 : decode cX12_next 33 = .ok (.goto 5, 3) := by decide +kernel
theorem dX12_next_36 : decode cX12_next 36 = .ok (.bipush (-9), 2) := by decide +kernel
theorem dX12_next_38 : decode cX12_next 38 = .ok (.ireturn, 1) := by decide +kernel
set_option maxRecDepth 20000 in
theorem ggX12_nth_X12_isSlot : GoodIn wsX12_nth wsX12_isSlot := goodIn_r _ [5, 6, 7, 8, 4, 9] (by decide +kernel) (by decide +kernel)
set_option maxRecDepth 20000 in
theorem gX12_nth_X12_isSlot : GoodIn wsX12_nth (va_wsS RX12 102 yX12_isSlot wsX12_isSlot) := goodIn_app (goodIn_of _ (by decide +kernel)) ggX12_nth_X12_isSlot
set_option maxRecDepth 20000 in
theorem ggX12_nth_X12_isMachine : GoodIn wsX12_nth wsX12_isMachine := goodIn_r _ [13, 14, 15, 38, 39, 40, 41, 42, 43, 44, 45, 46, 47, 48, 49, 50, 51, 52, 53, 54, 55, 56, 57, 58, 59, 60, 61, 62, 63, 64, 65, 66, 67, 68, 69, 70, 71] (by decide +kernel) (by decide +kernel)
set_option maxRecDepth 20000 in
theorem gX12_nth_X12_isMachine : GoodIn wsX12_nth (wsV RX12 229 RX12 yX12_isMachine wsX12_isMachine) := goodIn_app (goodIn_of _ (by decide +kernel)) ggX12_nth_X12_isMachine
set_option maxRecDepth 20000 in
theorem ggX12_nth_X12_pick : GoodIn wsX12_nth wsX12_pick := goodIn_r _ [19, 20, 1, 21, 22, 23, 24, 4, 25, 26, 27, 28, 29, 30, 31, 32, 33, 38, 39, 40, 41, 42, 43, 44, 45, 46, 47, 48, 49, 50, 51, 52, 53, 54, 55, 56, 57, 58, 59, 60, 61, 62, 63, 64, 65, 66, 67, 68, 69, 70, 71] rfl (by decide +kernel)
set_option maxRecDepth 20000 in
theorem gX12_nth_X12_pick : GoodIn wsX12_nth (wsV RX12 249 RX12 yX12_pick wsX12_pick) := goodIn_app (goodIn_of _ (by decide +kernel)) ggX12_nth_X12_pick
set_option maxRecDepth 20000 in
theorem ggX12_nth_X12_copy : GoodIn wsX12_nth wsX12_copy := goodIn_r _ [37, 1, 21, 38, 39, 40, 41, 42, 43, 44, 45, 46, 47, 48, 49, 50, 51, 52, 53, 54, 55, 56, 57, 58, 59, 60, 61, 62, 63, 64, 65, 66, 67, 68, 69, 70, 71] (by decide +kernel) (by decide +kernel)
set_option maxRecDepth 20000 in
theorem gX12_nth_X12_copy : GoodIn wsX12_nth (wsV RX12 106 RX12 yX12_copy wsX12_copy) := goodIn_app (goodIn_of _ (by decide +kernel)) ggX12_nth_X12_copy
theorem dX12_nth_0 : decode cX12_nth 0 = .ok (.iload_n 3, 1) := by decide +kernel
theorem dX12_nth_1 : decode cX12_nth 1 = .ok (.invokestatic 102, 3) := by decide +kernel
theorem dX12_nth_4 : decode cX12_nth 4 = .ok (.ifCond .ne 5, 3) := by decide +kernel
theorem dX12_nth_7 : decode cX12_nth 7 = .ok (.iconst (-1), 1) := by decide +kernel
theorem dX12_nth_8 : decode cX12_nth 8 = .ok (.ireturn, 1) := by decide +kernel
theorem dX12_nth_9 : decode cX12_nth 9 = .ok (.lload_n 1, 1) := by decide +kernel
theorem dX12_nth_10 : decode cX12_nth 10 = .ok (.lconst 0, 1) := by decide +kernel
theorem dX12_nth_11 : decode cX12_nth 11 = .ok (.lcmp, 1) := by decide +kernel
theorem dX12_nth_12 : decode cX12_nth 12 = .ok (.ifCond .ge 6, 3) := by decide +kernel
theorem dX12_nth_15 : decode cX12_nth 15 = .ok (.bipush (-2), 2) := by decide +kernel
theorem dX12_nth_17 : decode cX12_nth 17 = .ok (.ireturn, 1) := by decide +kernel
theorem dX12_nth_18 : decode cX12_nth 18 = .ok (.aload_n 0, 1) := by decide +kernel
theorem dX12_nth_19 : decode cX12_nth 19 = .ok (.invokevirtual 229, 3) := by decide +kernel
theorem dX12_nth_22 : decode cX12_nth 22 = .ok (.ifCond .ne 6, 3) := by decide +kernel
theorem dX12_nth_25 : decode cX12_nth 25 = .ok (.bipush (-3), 2) := by decide +kernel
theorem dX12_nth_27 : decode cX12_nth 27 = .ok (.ireturn, 1) := by decide +kernel
theorem dX12_nth_28 : decode cX12_nth 28 = .ok (.aload_n 0, 1) := by decide +kernel
theorem dX12_nth_29 : decode cX12_nth 29 = .ok (.lload_n 1, 1) := by decide +kernel
theorem dX12_nth_30 : decode cX12_nth 30 = .ok (.bipush 9, 2) := by decide +kernel
theorem dX12_nth_32 : decode cX12_nth 32 = .ok (.invokevirtual 249, 3) := by decide +kernel
theorem dX12_nth_35 : decode cX12_nth 35 = .ok (.ifCond .ne 6, 3) := by decide +kernel
theorem dX12_nth_38 : decode cX12_nth 38 = .ok (.bipush (-9), 2) := by decide +kernel
theorem dX12_nth_40 : decode cX12_nth 40 = .ok (.ireturn, 1) := by decide +kernel
theorem dX12_nth_41 : decode cX12_nth 41 = .ok (.aload_n 0, 1) := by decide +kernel
theorem dX12_nth_42 : decode cX12_nth 42 = .ok (.bipush 9, 2) := by decide +kernel
theorem dX12_nth_44 : decode cX12_nth 44 = .ok (.iload_n 3, 1) := by decide +kernel
theorem dX12_nth_45 : decode cX12_nth 45 = .ok (.invokevirtual 106, 3) := by decide +kernel
theorem dX12_nth_48 : decode cX12_nth 48 = .ok (.aload_n 0, 1) := by decide +kernel
theorem dX12_nth_49 : decode cX12_nth 49 = .ok (.getfield 13, 3) := by decide +kernel
theorem dX12_nth_52 : decode cX12_nth 52 = .ok (.iload_n 3, 1) := by decide +kernel
theorem dX12_nth_53 : decode cX12_nth 53 = .ok (.iaload, 1) := by decide +kernel
theorem dX12_nth_54 : decode cX12_nth 54 = .ok (.ireturn, 1) := by decide +kernel
