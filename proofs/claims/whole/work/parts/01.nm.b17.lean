set_option maxRecDepth 20000 in
theorem ggX6_run_X10_wipe : GoodIn wsX6_run wsX10_wipe := goodIn_r _ [19, 20, 244, 245] (by decide +kernel) (by decide +kernel)
set_option maxRecDepth 20000 in
theorem gX6_run_X10_wipe : GoodIn wsX6_run (wsV RX6 59 RX10 yX10_wipe wsX10_wipe) := goodIn_app (goodIn_of _ (by decide +kernel)) ggX6_run_X10_wipe
set_option maxRecDepth 20000 in
theorem ggX6_run_X6_readOn : GoodIn wsX6_run wsX6_readOn := goodIn_r _ [25, 1, 7, 14, 26, 2, 27, 28, 29, 30, 31, 32, 33, 34, 35, 36, 37, 38, 24, 39, 13, 40, 41, 42, 43, 44, 45, 46, 47, 48, 49, 50, 51, 52, 53, 54, 55, 18, 56, 20, 57, 238, 239, 240, 241, 242, 243, 244, 245, 261, 262, 263, 264, 265, 266, 267, 268, 269, 270, 271, 272, 273, 274, 275, 276, 277, 278, 279, 280, 281] rfl (by decide +kernel)
set_option maxRecDepth 20000 in
theorem gX6_run_X6_readOn : GoodIn wsX6_run (wsV RX6 60 RX6 yX6_readOn wsX6_readOn) := goodIn_app (goodIn_of _ (by decide +kernel)) ggX6_run_X6_readOn
set_option maxRecDepth 20000 in
theorem ggX6_run_X0_init : GoodIn wsX6_run wsX0_init := goodIn_r _ [60, 61, 62, 63, 64, 65, 66, 67, 18, 68, 69, 70, 71, 72, 73, 74, 75, 76, 77, 78, 79, 80, 81, 82, 83, 84, 85, 86, 87, 88, 89, 90, 5, 91, 57, 92, 93, 94, 95, 96, 97, 98, 99, 100, 101, 102, 103, 104, 105, 246, 247, 248, 249, 250, 251, 252, 253, 254, 255, 256, 257, 258, 259, 260, 244, 245, 282, 283, 284, 285, 286, 287, 288] rfl (by decide +kernel)
set_option maxRecDepth 20000 in
theorem gX6_run_X0_init : GoodIn wsX6_run (wsX0_init) := ggX6_run_X0_init
set_option maxRecDepth 20000 in
theorem ggX6_run_X6_putRestBack : GoodIn wsX6_run wsX6_putRestBack := goodIn_r _ [109, 1, 7, 53, 54, 55, 18, 56, 20, 57, 238, 239, 240, 241, 242, 243, 244, 245] (by decide +kernel) (by decide +kernel)
set_option maxRecDepth 20000 in
theorem gX6_run_X6_putRestBack : GoodIn wsX6_run (wsV RX6 67 RX6 yX6_putRestBack wsX6_putRestBack) := goodIn_app (goodIn_of _ (by decide +kernel)) ggX6_run_X6_putRestBack
set_option maxRecDepth 20000 in
theorem ggX6_run_X0_run : GoodIn wsX6_run wsX0_run := goodIn_r _ [113, 68, 69, 114, 72, 115, 116, 79, 117, 84, 118, 16, 17, 18, 19, 20, 119, 120, 121, 122, 57, 123, 124, 125, 12, 126, 76, 80, 77, 127, 128, 129, 130, 74, 75, 131, 132, 133, 134, 135, 65, 136, 90, 5, 91, 137, 138, 139, 140, 141, 54, 55, 56, 142, 143, 144, 30, 145, 146, 32, 33, 147, 35, 148, 149, 150, 151, 83, 152, 153, 154, 155, 156, 157, 158, 159, 160, 161, 162, 101, 102, 103, 104, 105, 163, 164, 165, 166, 167, 168, 169, 170, 171, 172, 173, 174, 175, 176, 177, 178, 4, 6, 179, 180, 181, 182, 183, 184, 185, 64, 186, 70, 187, 188, 189, 190, 191, 192, 193, 194, 195, 196, 197, 198, 41, 42, 43, 44, 45, 46, 199, 200, 201, 202, 203, 204, 205, 206, 207, 208, 209, 210, 211, 212, 52, 213, 214, 215, 216, 217, 218, 219, 220, 221, 222, 223, 224, 225, 226, 227, 228, 229, 230, 231, 232, 233, 234, 235, 236, 237, 97, 98, 99, 100, 73, 246, 247, 248, 249, 250, 251, 252, 253, 254, 255, 256, 257, 258, 259, 260, 244, 245, 261, 262, 263, 264, 265, 266, 267, 268, 269, 270, 271, 272, 273, 274, 282, 283, 284, 285, 286, 287, 288, 275, 276, 277, 278, 279, 280, 281] rfl (by decide +kernel)
set_option maxRecDepth 20000 in
theorem gX6_run_X0_run : GoodIn wsX6_run (wsV RX6 70 RX0 yX0_run wsX0_run) := goodIn_app (goodIn_of _ (by decide +kernel)) ggX6_run_X0_run
theorem dX6_run_0 : decode cX6_run 0 = .ok (.aload_n 0, 1) := by decide +kernel
theorem dX6_run_1 : decode cX6_run 1 = .ok (.iconst 0, 1) := by decide +kernel
theorem dX6_run_2 : decode cX6_run 2 = .ok (.putfield 41, 3) := by decide +kernel
theorem dX6_run_5 : decode cX6_run 5 = .ok (.aload_n 1, 1) := by decide +kernel
theorem dX6_run_6 : decode cX6_run 6 = .ok (.getfield 45, 3) := by decide +kernel
theorem dX6_run_9 : decode cX6_run 9 = .ok (.bipush 60, 2) := by decide +kernel
theorem dX6_run_11 : decode cX6_run 11 = .ok (.invokestatic 50, 3) := by decide +kernel
theorem dX6_run_14 : decode cX6_run 14 = .ok (.iconst 1, 1) := by decide +kernel
theorem dX6_run_15 : decode cX6_run 15 = .ok (.isub, 1) := by decide +kernel
theorem dX6_run_16 : decode cX6_run 16 = .ok (.istore_n 3, 1) := by decide +kernel
theorem dX6_run_17 : decode cX6_run 17 = .ok (.iload_n 3, 1) := by decide +kernel
theorem dX6_run_18 : decode cX6_run 18 = .ok (.ifCond .lt 31, 3) := by decide +kernel
theorem dX6_run_21 : decode cX6_run 21 = .ok (.aload_n 0, 1) := by decide +kernel
theorem dX6_run_22 : decode cX6_run 22 = .ok (.getfield 19, 3) := by decide +kernel
theorem dX6_run_25 : decode cX6_run 25 = .ok (.aload_n 0, 1) := by decide +kernel
theorem dX6_run_26 : decode cX6_run 26 = .ok (.dup, 1) := by decide +kernel
theorem dX6_run_27 : decode cX6_run 27 = .ok (.getfield 41, 3) := by decide +kernel
theorem dX6_run_30 : decode cX6_run 30 = .ok (.dup_x1, 1) := by decide +kernel
theorem dX6_run_31 : decode cX6_run 31 = .ok (.iconst 1, 1) := by decide +kernel
theorem dX6_run_32 : decode cX6_run 32 = .ok (.iadd, 1) := by decide +kernel
theorem dX6_run_33 : decode cX6_run 33 = .ok (.putfield 41, 3) := by decide +kernel
theorem dX6_run_36 : decode cX6_run 36 = .ok (.aload_n 1, 1) := by decide +kernel
theorem dX6_run_37 : decode cX6_run 37 = .ok (.getfield 56, 3) := by decide +kernel
theorem dX6_run_40 : decode cX6_run 40 = .ok (.iload_n 3, 1) := by decide +kernel
theorem dX6_run_41 : decode cX6_run 41 = .ok (.iaload, 1) := by decide +kernel
theorem dX6_run_42 : decode cX6_run 42 = .ok (.iastore, 1) := by decide +kernel
theorem dX6_run_43 : decode cX6_run 43 = .ok (.iinc 3 (-1), 3) := by decide +kernel
theorem dX6_run_46 : decode cX6_run 46 = .ok (.goto (-29), 3) := by decide +kernel
theorem dX6_run_49 : decode cX6_run 49 = .ok (.aload_n 2, 1) := by decide +kernel
theorem dX6_run_50 : decode cX6_run 50 = .ok (.invokevirtual 59, 3) := by decide +kernel
theorem dX6_run_53 : decode cX6_run 53 = .ok (.aload_n 0, 1) := by decide +kernel
theorem dX6_run_54 : decode cX6_run 54 = .ok (.aload_n 2, 1) := by decide +kernel
theorem dX6_run_55 : decode cX6_run 55 = .ok (.invokevirtual 60, 3) := by decide +kernel
theorem dX6_run_58 : decode cX6_run 58 = .ok (.ifCond .ne 5, 3) := by decide +kernel
theorem dX6_run_61 : decode cX6_run 61 = .ok (.iconst 0, 1) := by decide +kernel
theorem dX6_run_62 : decode cX6_run 62 = .ok (.ireturn, 1) := by decide +kernel
theorem dX6_run_63 : decode cX6_run 63 = .ok (.aload_n 0, 1) := by decide +kernel
theorem dX6_run_64 : decode cX6_run 64 = .ok (.getfield 41, 3) := by decide +kernel
theorem dX6_run_67 : decode cX6_run 67 = .ok (.ifCond .gt 5, 3) := by decide +kernel
theorem dX6_run_70 : decode cX6_run 70 = .ok (.iconst 1, 1) := by decide +kernel
theorem dX6_run_71 : decode cX6_run 71 = .ok (.ireturn, 1) := by decide +kernel
theorem dX6_run_72 : decode cX6_run 72 = .ok (.aload_n 0, 1) := by decide +kernel
theorem dX6_run_73 : decode cX6_run 73 = .ok (.getfield 26, 3) := by decide +kernel
theorem dX6_run_76 : decode cX6_run 76 = .ok (.ifnonnull 22, 3) := by decide +kernel
theorem dX6_run_79 : decode cX6_run 79 = .ok (.aload_n 0, 1) := by decide +kernel
theorem dX6_run_80 : decode cX6_run 80 = .ok (.new 31, 3) := by decide +kernel
theorem dX6_run_83 : decode cX6_run 83 = .ok (.dup, 1) := by decide +kernel
theorem dX6_run_84 : decode cX6_run 84 = .ok (.aload_n 0, 1) := by decide +kernel
theorem dX6_run_85 : decode cX6_run 85 = .ok (.getfield 9, 3) := by decide +kernel
theorem dX6_run_88 : decode cX6_run 88 = .ok (.aload_n 0, 1) := by decide +kernel
theorem dX6_run_89 : decode cX6_run 89 = .ok (.getfield 15, 3) := by decide +kernel
theorem dX6_run_92 : decode cX6_run 92 = .ok (.invokespecial 64, 3) := by decide +kernel
theorem dX6_run_95 : decode cX6_run 95 = .ok (.putfield 26, 3) := by decide +kernel
theorem dX6_run_98 : decode cX6_run 98 = .ok (.aload_n 0, 1) := by decide +kernel
theorem dX6_run_99 : decode cX6_run 99 = .ok (.aload_n 2, 1) := by decide +kernel
theorem dX6_run_100 : decode cX6_run 100 = .ok (.invokevirtual 67, 3) := by decide +kernel
theorem dX6_run_103 : decode cX6_run 103 = .ok (.ifCond .eq 18, 3) := by decide +kernel
theorem dX6_run_106 : decode cX6_run 106 = .ok (.aload_n 0, 1) := by decide +kernel
theorem dX6_run_107 : decode cX6_run 107 = .ok (.getfield 26, 3) := by decide +kernel
theorem dX6_run_110 : decode cX6_run 110 = .ok (.aload_n 2, 1) := by decide +kernel
theorem dX6_run_111 : decode cX6_run 111 = .ok (.invokevirtual 70, 3) := by decide +kernel
theorem dX6_run_114 : decode cX6_run 114 = .ok (.ifCond .eq 7, 3) := by decide +kernel
theorem dX6_run_117 : decode cX6_run 117 = .ok (.iconst 1, 1) := by decide +kernel
theorem dX6_run_118 : decode cX6_run 118 = .ok (.goto 4, 3) := by decide +kernel
theorem dX6_run_121 : decode cX6_run 121 = .ok (.iconst 0, 1) := by decide +kernel
theorem dX6_run_122 : decode cX6_run 122 = .ok (.ireturn, 1) := by decide +kernel
set_option maxRecDepth 20000 in
theorem ggX7_arePartsLeast_X8_firstOf : GoodIn wsX7_arePartsLeast wsX8_firstOf := goodIn_r _ [7, 8, 9, 29, 30, 31, 32] (by decide +kernel) (by decide +kernel)
set_option maxRecDepth 20000 in
theorem gX7_arePartsLeast_X8_firstOf : GoodIn wsX7_arePartsLeast (wsV RX7 36 RX8 yX8_firstOf wsX8_firstOf) := goodIn_app (goodIn_of _ (by decide +kernel)) ggX7_arePartsLeast_X8_firstOf
set_option maxRecDepth 20000 in
theorem ggX7_arePartsLeast_X1_isLeast : GoodIn wsX7_arePartsLeast wsX1_isLeast := goodIn_r _ [14, 15, 16, 33, 34, 35] (by decide +kernel) (by decide +kernel)
set_option maxRecDepth 20000 in
theorem gX7_arePartsLeast_X1_isLeast : GoodIn wsX7_arePartsLeast (wsV RX7 45 RX1 yX1_isLeast wsX1_isLeast) := goodIn_app (goodIn_of _ (by decide +kernel)) ggX7_arePartsLeast_X1_isLeast
set_option maxRecDepth 20000 in
theorem ggX7_arePartsLeast_X8_powerOf : GoodIn wsX7_arePartsLeast wsX8_powerOf := goodIn_r _ [20, 8, 21, 29, 30, 31, 32] (by decide +kernel) (by decide +kernel)
set_option maxRecDepth 20000 in
theorem gX7_arePartsLeast_X8_powerOf : GoodIn wsX7_arePartsLeast (wsV RX7 42 RX8 yX8_powerOf wsX8_powerOf) := goodIn_app (goodIn_of _ (by decide +kernel)) ggX7_arePartsLeast_X8_powerOf
theorem dX7_arePartsLeast_0 : decode cX7_arePartsLeast 0 = .ok (.aload_n 0, 1) := by decide +kernel
theorem dX7_arePartsLeast_1 : decode cX7_arePartsLeast 1 = .ok (.getfield 9, 3) := by decide +kernel
theorem dX7_arePartsLeast_4 : decode cX7_arePartsLeast 4 = .ok (.iload_n 2, 1) := by decide +kernel
theorem dX7_arePartsLeast_5 : decode cX7_arePartsLeast 5 = .ok (.iconst 1, 1) := by decide +kernel
theorem dX7_arePartsLeast_6 : decode cX7_arePartsLeast 6 = .ok (.isub, 1) := by decide +kernel
theorem dX7_arePartsLeast_7 : decode cX7_arePartsLeast 7 = .ok (.invokevirtual 36, 3) := by decide +kernel
theorem dX7_arePartsLeast_10 : decode cX7_arePartsLeast 10 = .ok (.istore 4, 2) := by decide +kernel
theorem dX7_arePartsLeast_12 : decode cX7_arePartsLeast 12 = .ok (.aload_n 1, 1) := by decide +kernel
theorem dX7_arePartsLeast_13 : decode cX7_arePartsLeast 13 = .ok (.iload 4, 2) := by decide +kernel
theorem dX7_arePartsLeast_15 : decode cX7_arePartsLeast 15 = .ok (.iload_n 3, 1) := by decide +kernel
theorem dX7_arePartsLeast_16 : decode cX7_arePartsLeast 16 = .ok (.aload_n 0, 1) := by decide +kernel
theorem dX7_arePartsLeast_17 : decode cX7_arePartsLeast 17 = .ok (.getfield 9, 3) := by decide +kernel
theorem dX7_arePartsLeast_20 : decode cX7_arePartsLeast 20 = .ok (.getfield 62, 3) := by decide +kernel
theorem dX7_arePartsLeast_23 : decode cX7_arePartsLeast 23 = .ok (.idiv, 1) := by decide +kernel
theorem dX7_arePartsLeast_24 : decode cX7_arePartsLeast 24 = .ok (.iadd, 1) := by decide +kernel
theorem dX7_arePartsLeast_25 : decode cX7_arePartsLeast 25 = .ok (.invokevirtual 45, 3) := by decide +kernel
theorem dX7_arePartsLeast_28 : decode cX7_arePartsLeast 28 = .ok (.ifCond .eq 29, 3) := by decide +kernel
theorem dX7_arePartsLeast_31 : decode cX7_arePartsLeast 31 = .ok (.aload_n 1, 1) := by decide +kernel
theorem dX7_arePartsLeast_32 : decode cX7_arePartsLeast 32 = .ok (.iload 4, 2) := by decide +kernel
theorem dX7_arePartsLeast_34 : decode cX7_arePartsLeast 34 = .ok (.iload_n 3, 1) := by decide +kernel
theorem dX7_arePartsLeast_35 : decode cX7_arePartsLeast 35 = .ok (.aload_n 0, 1) := by decide +kernel
theorem dX7_arePartsLeast_36 : decode cX7_arePartsLeast 36 = .ok (.getfield 9, 3) := by decide +kernel
theorem dX7_arePartsLeast_39 : decode cX7_arePartsLeast 39 = .ok (.iload_n 2, 1) := by decide +kernel
theorem dX7_arePartsLeast_40 : decode cX7_arePartsLeast 40 = .ok (.iconst 1, 1) := by decide +kernel
theorem dX7_arePartsLeast_41 : decode cX7_arePartsLeast 41 = .ok (.isub, 1) := by decide +kernel
theorem dX7_arePartsLeast_42 : decode cX7_arePartsLeast 42 = .ok (.invokevirtual 42, 3) := by decide +kernel
theorem dX7_arePartsLeast_45 : decode cX7_arePartsLeast 45 = .ok (.irem, 1) := by decide +kernel
theorem dX7_arePartsLeast_46 : decode cX7_arePartsLeast 46 = .ok (.iadd, 1) := by decide +kernel
theorem dX7_arePartsLeast_47 : decode cX7_arePartsLeast 47 = .ok (.invokevirtual 45, 3) := by decide +kernel
theorem dX7_arePartsLeast_50 : decode cX7_arePartsLeast 50 = .ok (.ifCond .eq 7, 3) := by decide +kernel
theorem dX7_arePartsLeast_53 : decode cX7_arePartsLeast 53 = .ok (.iconst 1, 1) := by decide +kernel
theorem dX7_arePartsLeast_54 : decode cX7_arePartsLeast 54 = .ok (.goto 4, 3) := by decide +kernel
theorem dX7_arePartsLeast_57 : decode cX7_arePartsLeast 57 = .ok (.iconst 0, 1) := by decide +kernel
theorem dX7_arePartsLeast_58 : decode cX7_arePartsLeast 58 = .ok (.ireturn, 1) := by decide +kernel
set_option maxRecDepth 20000 in
theorem ggX7_copy_X7_signAt : GoodIn wsX7_copy wsX7_signAt := goodIn_r _ [9, 10, 11, 12, 13, 21, 22, 23, 24, 25, 26, 27] (by decide +kernel) (by decide +kernel)
set_option maxRecDepth 20000 in
theorem gX7_copy_X7_signAt : GoodIn wsX7_copy (wsV RX7 78 RX7 yX7_signAt wsX7_signAt) := goodIn_app (goodIn_of _ (by decide +kernel)) ggX7_copy_X7_signAt
set_option maxRecDepth 20000 in
theorem ggX7_copy_X10_push : GoodIn wsX7_copy wsX10_push := goodIn_r _ [18, 19, 20, 28, 29] (by decide +kernel) (by decide +kernel)
set_option maxRecDepth 20000 in
theorem gX7_copy_X10_push : GoodIn wsX7_copy (wsV RX7 82 RX10 yX10_push wsX10_push) := goodIn_app (goodIn_of _ (by decide +kernel)) ggX7_copy_X10_push
theorem dX7_copy_0 : decode cX7_copy 0 = .ok (.iload_n 3, 1) := by decide +kernel
theorem dX7_copy_1 : decode cX7_copy 1 = .ok (.iconst 0, 1) := by decide +kernel
theorem dX7_copy_2 : decode cX7_copy 2 = .ok (.invokestatic 72, 3) := by decide +kernel
theorem dX7_copy_5 : decode cX7_copy 5 = .ok (.istore 6, 2) := by decide +kernel
theorem dX7_copy_7 : decode cX7_copy 7 = .ok (.iload 6, 2) := by decide +kernel
theorem dX7_copy_9 : decode cX7_copy 9 = .ok (.iload 4, 2) := by decide +kernel
theorem dX7_copy_11 : decode cX7_copy 11 = .ok (.if_icmp .ge 23, 3) := by decide +kernel
theorem dX7_copy_14 : decode cX7_copy 14 = .ok (.aload 5, 2) := by decide +kernel
theorem dX7_copy_16 : decode cX7_copy 16 = .ok (.aload_n 0, 1) := by decide +kernel
theorem dX7_copy_17 : decode cX7_copy 17 = .ok (.iload_n 1, 1) := by decide +kernel
theorem dX7_copy_18 : decode cX7_copy 18 = .ok (.iload_n 2, 1) := by decide +kernel
theorem dX7_copy_19 : decode cX7_copy 19 = .ok (.iload 6, 2) := by decide +kernel
theorem dX7_copy_21 : decode cX7_copy 21 = .ok (.invokevirtual 78, 3) := by decide +kernel
theorem dX7_copy_24 : decode cX7_copy 24 = .ok (.invokevirtual 82, 3) := by decide +kernel
theorem dX7_copy_27 : decode cX7_copy 27 = .ok (.pop, 1) := by decide +kernel
theorem dX7_copy_28 : decode cX7_copy 28 = .ok (.iinc 6 1, 3) := by decide +kernel
theorem dX7_copy_31 : decode cX7_copy 31 = .ok (.goto (-24), 3) := by decide +kernel
theorem dX7_copy_34 : decode cX7_copy 34 = .ok (.return_, 1) := by decide +kernel
set_option maxRecDepth 20000 in
theorem ggX7_gather_X8_firstOf : GoodIn wsX7_gather wsX8_firstOf := goodIn_r _ [7, 8, 9, 59, 60, 61, 62] (by decide +kernel) (by decide +kernel)
set_option maxRecDepth 20000 in
theorem gX7_gather_X8_firstOf : GoodIn wsX7_gather (wsV RX7 36 RX8 yX8_firstOf wsX8_firstOf) := goodIn_app (goodIn_of _ (by decide +kernel)) ggX7_gather_X8_firstOf
set_option maxRecDepth 20000 in
theorem ggX7_gather_X8_powerOf : GoodIn wsX7_gather wsX8_powerOf := goodIn_r _ [13, 8, 14, 59, 60, 61, 62] (by decide +kernel) (by decide +kernel)
set_option maxRecDepth 20000 in
theorem gX7_gather_X8_powerOf : GoodIn wsX7_gather (wsV RX7 42 RX8 yX8_powerOf wsX8_powerOf) := goodIn_app (goodIn_of _ (by decide +kernel)) ggX7_gather_X8_powerOf
set_option maxRecDepth 20000 in
theorem ggX7_gather_X1_isLeast : GoodIn wsX7_gather wsX1_isLeast := goodIn_r _ [19, 20, 21, 63, 64, 65] (by decide +kernel) (by decide +kernel)
set_option maxRecDepth 20000 in
theorem gX7_gather_X1_isLeast : GoodIn wsX7_gather (wsV RX7 45 RX1 yX1_isLeast wsX1_isLeast) := goodIn_app (goodIn_of _ (by decide +kernel)) ggX7_gather_X1_isLeast
set_option maxRecDepth 20000 in
theorem ggX7_gather_X7_arePartsLeast : GoodIn wsX7_gather wsX7_arePartsLeast := goodIn_r _ [26, 2, 27, 3, 4, 5, 6, 7, 8, 9, 15, 16, 17, 18, 19, 20, 21, 10, 11, 12, 13, 14, 52, 53, 54, 55, 56, 57, 58, 59, 60, 61, 62, 63, 64, 65] (by decide +kernel) (by decide +kernel)
set_option maxRecDepth 20000 in
theorem gX7_gather_X7_arePartsLeast : GoodIn wsX7_gather (wsV RX7 51 RX7 yX7_arePartsLeast wsX7_arePartsLeast) := goodIn_app (goodIn_of _ (by decide +kernel)) ggX7_gather_X7_arePartsLeast
set_option maxRecDepth 20000 in
theorem ggX7_gather_X1_leastOf : GoodIn wsX7_gather wsX1_leastOf := goodIn_r _ [31, 20, 21, 63, 64, 65] (by decide +kernel) (by decide +kernel)
set_option maxRecDepth 20000 in
theorem gX7_gather_X1_leastOf : GoodIn wsX7_gather (wsV RX7 55 RX1 yX1_leastOf wsX1_leastOf) := goodIn_app (goodIn_of _ (by decide +kernel)) ggX7_gather_X1_leastOf
set_option maxRecDepth 20000 in
theorem ggX7_gather_X7_keep : GoodIn wsX7_gather wsX7_keep := goodIn_r _ [35, 1, 36, 37, 2, 38, 39, 40, 41, 42, 43, 6, 44, 8, 9, 45, 46, 47, 48, 49, 50, 51, 4, 5, 7, 52, 53, 54, 55, 56, 57, 58, 59, 60, 61, 62] (by decide +kernel) (by decide +kernel)
set_option maxRecDepth 20000 in
theorem gX7_gather_X7_keep : GoodIn wsX7_gather (wsV RX7 58 RX7 yX7_keep wsX7_keep) := goodIn_app (goodIn_of _ (by decide +kernel)) ggX7_gather_X7_keep
theorem dX7_gather_0 : decode cX7_gather 0 = .ok (.aload_n 0, 1) := by decide +kernel
theorem dX7_gather_1 : decode cX7_gather 1 = .ok (.iconst 0, 1) := by decide +kernel
theorem dX7_gather_2 : decode cX7_gather 2 = .ok (.putfield 32, 3) := by decide +kernel
theorem dX7_gather_5 : decode cX7_gather 5 = .ok (.iconst 1, 1) := by decide +kernel
theorem dX7_gather_6 : decode cX7_gather 6 = .ok (.istore_n 3, 1) := by decide +kernel
theorem dX7_gather_7 : decode cX7_gather 7 = .ok (.iload_n 3, 1) := by decide +kernel
theorem dX7_gather_8 : decode cX7_gather 8 = .ok (.iload_n 2, 1) := by decide +kernel
theorem dX7_gather_9 : decode cX7_gather 9 = .ok (.if_icmp .gt 91, 3) := by decide +kernel
theorem dX7_gather_12 : decode cX7_gather 12 = .ok (.aload_n 0, 1) := by decide +kernel
theorem dX7_gather_13 : decode cX7_gather 13 = .ok (.getfield 9, 3) := by decide +kernel
theorem dX7_gather_16 : decode cX7_gather 16 = .ok (.iload_n 3, 1) := by decide +kernel
theorem dX7_gather_17 : decode cX7_gather 17 = .ok (.invokevirtual 36, 3) := by decide +kernel
theorem dX7_gather_20 : decode cX7_gather 20 = .ok (.istore 4, 2) := by decide +kernel
theorem dX7_gather_22 : decode cX7_gather 22 = .ok (.aload_n 0, 1) := by decide +kernel
theorem dX7_gather_23 : decode cX7_gather 23 = .ok (.getfield 9, 3) := by decide +kernel
theorem dX7_gather_26 : decode cX7_gather 26 = .ok (.iload_n 3, 1) := by decide +kernel
theorem dX7_gather_27 : decode cX7_gather 27 = .ok (.invokevirtual 42, 3) := by decide +kernel
theorem dX7_gather_30 : decode cX7_gather 30 = .ok (.istore 5, 2) := by decide +kernel
theorem dX7_gather_32 : decode cX7_gather 32 = .ok (.iconst 0, 1) := by decide +kernel
theorem dX7_gather_33 : decode cX7_gather 33 = .ok (.istore 6, 2) := by decide +kernel
theorem dX7_gather_35 : decode cX7_gather 35 = .ok (.iload 6, 2) := by decide +kernel
theorem dX7_gather_37 : decode cX7_gather 37 = .ok (.iload 5, 2) := by decide +kernel
theorem dX7_gather_39 : decode cX7_gather 39 = .ok (.if_icmp .ge 55, 3) := by decide +kernel
theorem dX7_gather_42 : decode cX7_gather 42 = .ok (.aload_n 1, 1) := by decide +kernel
theorem dX7_gather_43 : decode cX7_gather 43 = .ok (.iload 4, 2) := by decide +kernel
theorem dX7_gather_45 : decode cX7_gather 45 = .ok (.iload 6, 2) := by decide +kernel
theorem dX7_gather_47 : decode cX7_gather 47 = .ok (.iadd, 1) := by decide +kernel
theorem dX7_gather_48 : decode cX7_gather 48 = .ok (.invokevirtual 45, 3) := by decide +kernel
theorem dX7_gather_51 : decode cX7_gather 51 = .ok (.ifCond .ne 37, 3) := by decide +kernel
theorem dX7_gather_54 : decode cX7_gather 54 = .ok (.aload_n 0, 1) := by decide +kernel
theorem dX7_gather_55 : decode cX7_gather 55 = .ok (.aload_n 1, 1) := by decide +kernel
theorem dX7_gather_56 : decode cX7_gather 56 = .ok (.iload_n 3, 1) := by decide +kernel
theorem dX7_gather_57 : decode cX7_gather 57 = .ok (.iload 6, 2) := by decide +kernel
theorem dX7_gather_59 : decode cX7_gather 59 = .ok (.invokevirtual 51, 3) := by decide +kernel
theorem dX7_gather_62 : decode cX7_gather 62 = .ok (.ifCond .eq 26, 3) := by decide +kernel
theorem dX7_gather_65 : decode cX7_gather 65 = .ok (.aload_n 0, 1) := by decide +kernel
theorem dX7_gather_66 : decode cX7_gather 66 = .ok (.iload 4, 2) := by decide +kernel
theorem dX7_gather_68 : decode cX7_gather 68 = .ok (.iload 6, 2) := by decide +kernel
theorem dX7_gather_70 : decode cX7_gather 70 = .ok (.iadd, 1) := by decide +kernel
theorem dX7_gather_71 : decode cX7_gather 71 = .ok (.aload_n 1, 1) := by decide +kernel
theorem dX7_gather_72 : decode cX7_gather 72 = .ok (.iload 4, 2) := by decide +kernel
theorem dX7_gather_74 : decode cX7_gather 74 = .ok (.iload 6, 2) := by decide +kernel
theorem dX7_gather_76 : decode cX7_gather 76 = .ok (.iadd, 1) := by decide +kernel
theorem dX7_gather_77 : decode cX7_gather 77 = .ok (.invokevirtual 55, 3) := by decide +kernel
theorem dX7_gather_80 : decode cX7_gather 80 = .ok (.invokevirtual 58, 3) := by decide +kernel
theorem dX7_gather_83 : decode cX7_gather 83 = .ok (.ifCond .ne 5, 3) := by decide +kernel
theorem dX7_gather_86 : decode cX7_gather 86 = .ok (.iconst 0, 1) := by decide +kernel
theorem dX7_gather_87 : decode cX7_gather 87 = .ok (.ireturn, 1) := by decide +kernel
theorem dX7_gather_88 : decode cX7_gather 88 = .ok (.iinc 6 1, 3) := by decide +kernel
theorem dX7_gather_91 : decode cX7_gather 91 = .ok (.goto (-56), 3) := by decide +kernel
theorem dX7_gather_94 : decode cX7_gather 94 = .ok (.iinc 3 1, 3) := by decide +kernel
theorem dX7_gather_97 : decode cX7_gather 97 = .ok (.goto (-90), 3) := by decide +kernel
theorem dX7_gather_100 : decode cX7_gather 100 = .ok (.iconst 1, 1) := by decide +kernel
theorem dX7_gather_101 : decode cX7_gather 101 = .ok (.ireturn, 1) := by decide +kernel
theorem dX7_has_0 : decode cX7_has 0 = .ok (.iload_n 1, 1) := by decide +kernel
theorem dX7_has_1 : decode cX7_has 1 = .ok (.ifCond .lt 15, 3) := by decide +kernel
theorem dX7_has_4 : decode cX7_has 4 = .ok (.iload_n 1, 1) := by decide +kernel
theorem dX7_has_5 : decode cX7_has 5 = .ok (.aload_n 0, 1) := by decide +kernel
theorem dX7_has_6 : decode cX7_has 6 = .ok (.getfield 32, 3) := by decide +kernel
theorem dX7_has_9 : decode cX7_has 9 = .ok (.if_icmp .ge 7, 3) := by decide +kernel
theorem dX7_has_12 : decode cX7_has 12 = .ok (.iconst 1, 1) := by decide +kernel
theorem dX7_has_13 : decode cX7_has 13 = .ok (.goto 4, 3) := by decide +kernel
theorem dX7_has_16 : decode cX7_has 16 = .ok (.iconst 0, 1) := by decide +kernel
theorem dX7_has_17 : decode cX7_has 17 = .ok (.ireturn, 1) := by decide +kernel
theorem dX7_init_0 : decode cX7_init 0 = .ok (.aload_n 0, 1) := by decide +kernel
theorem dX7_init_1 : decode cX7_init 1 = .ok (.invokespecial 3, 3) := by decide +kernel
theorem dX7_init_4 : decode cX7_init 4 = .ok (.aload_n 0, 1) := by decide +kernel
theorem dX7_init_5 : decode cX7_init 5 = .ok (.aload_n 1, 1) := by decide +kernel
theorem dX7_init_6 : decode cX7_init 6 = .ok (.putfield 9, 3) := by decide +kernel
theorem dX7_init_9 : decode cX7_init 9 = .ok (.aload_n 0, 1) := by decide +kernel
theorem dX7_init_10 : decode cX7_init 10 = .ok (.bipush 40, 2) := by decide +kernel
theorem dX7_init_12 : decode cX7_init 12 = .ok (.newarray .int, 2) := by decide +kernel
theorem dX7_init_14 : decode cX7_init 14 = .ok (.putfield 15, 3) := by decide +kernel
theorem dX7_init_17 : decode cX7_init 17 = .ok (.aload_n 0, 1) := by decide +kernel
theorem dX7_init_18 : decode cX7_init 18 = .ok (.bipush 40, 2) := by decide +kernel
theorem dX7_init_20 : decode cX7_init 20 = .ok (.newarray .int, 2) := by decide +kernel
theorem dX7_init_22 : decode cX7_init 22 = .ok (.putfield 19, 3) := by decide +kernel
theorem dX7_init_25 : decode cX7_init 25 = .ok (.aload_n 0, 1) := by decide +kernel
theorem dX7_init_26 : decode cX7_init 26 = .ok (.bipush 40, 2) := by decide +kernel
theorem dX7_init_28 : decode cX7_init 28 = .ok (.newarray .int, 2) := by decide +kernel
theorem dX7_init_30 : decode cX7_init 30 = .ok (.putfield 22, 3) := by decide +kernel
theorem dX7_init_33 : decode cX7_init 33 = .ok (.aload_n 0, 1) := by decide +kernel
theorem dX7_init_34 : decode cX7_init 34 = .ok (.bipush 40, 2) := by decide +kernel
theorem dX7_init_36 : decode cX7_init 36 = .ok (.newarray .long, 2) := by decide +kernel
theorem dX7_init_38 : decode cX7_init 38 = .ok (.putfield 25, 3) := by decide +kernel
theorem dX7_init_41 : decode cX7_init 41 = .ok (.aload_n 0, 1) := by decide +kernel
theorem dX7_init_42 : decode cX7_init 42 = .ok (.bipush 40, 2) := by decide +kernel
theorem dX7_init_44 : decode cX7_init 44 = .ok (.newarray .long, 2) := by decide +kernel
theorem dX7_init_46 : decode cX7_init 46 = .ok (.putfield 29, 3) := by decide +kernel
theorem dX7_init_49 : decode cX7_init 49 = .ok (.return_, 1) := by decide +kernel
set_option maxRecDepth 20000 in
theorem ggX7_keep_X8_spanOf : GoodIn wsX7_keep wsX8_spanOf := goodIn_r _ [12, 13, 14, 32, 33, 34, 35] (by decide +kernel) (by decide +kernel)
set_option maxRecDepth 20000 in
theorem gX7_keep_X8_spanOf : GoodIn wsX7_keep (wsV RX7 65 RX8 yX8_spanOf wsX8_spanOf) := goodIn_app (goodIn_of _ (by decide +kernel)) ggX7_keep_X8_spanOf
set_option maxRecDepth 20000 in
theorem ggX7_keep_X8_codeOf : GoodIn wsX7_keep wsX8_codeOf := goodIn_r _ [18, 19, 20, 9, 10, 11, 12, 13, 14, 21, 22, 23, 24, 32, 33, 34, 35] (by decide +kernel) (by decide +kernel)
set_option maxRecDepth 20000 in
theorem gX7_keep_X8_codeOf : GoodIn wsX7_keep (wsV RX7 68 RX8 yX8_codeOf wsX8_codeOf) := goodIn_app (goodIn_of _ (by decide +kernel)) ggX7_keep_X8_codeOf
theorem dX7_keep_0 : decode cX7_keep 0 = .ok (.aload_n 0, 1) := by decide +kernel
theorem dX7_keep_1 : decode cX7_keep 1 = .ok (.getfield 32, 3) := by decide +kernel
theorem dX7_keep_4 : decode cX7_keep 4 = .ok (.bipush 40, 2) := by decide +kernel
theorem dX7_keep_6 : decode cX7_keep 6 = .ok (.if_icmp .lt 5, 3) := by decide +kernel
theorem dX7_keep_9 : decode cX7_keep 9 = .ok (.iconst 0, 1) := by decide +kernel
theorem dX7_keep_10 : decode cX7_keep 10 = .ok (.ireturn, 1) := by decide +kernel
theorem dX7_keep_11 : decode cX7_keep 11 = .ok (.aload_n 0, 1) := by decide +kernel
theorem dX7_keep_12 : decode cX7_keep 12 = .ok (.getfield 15, 3) := by decide +kernel
theorem dX7_keep_15 : decode cX7_keep 15 = .ok (.aload_n 0, 1) := by decide +kernel
theorem dX7_keep_16 : decode cX7_keep 16 = .ok (.getfield 32, 3) := by decide +kernel
theorem dX7_keep_19 : decode cX7_keep 19 = .ok (.iload_n 1, 1) := by decide +kernel
theorem dX7_keep_20 : decode cX7_keep 20 = .ok (.iastore, 1) := by decide +kernel
theorem dX7_keep_21 : decode cX7_keep 21 = .ok (.aload_n 0, 1) := by decide +kernel
theorem dX7_keep_22 : decode cX7_keep 22 = .ok (.getfield 19, 3) := by decide +kernel
theorem dX7_keep_25 : decode cX7_keep 25 = .ok (.aload_n 0, 1) := by decide +kernel
theorem dX7_keep_26 : decode cX7_keep 26 = .ok (.getfield 32, 3) := by decide +kernel
theorem dX7_keep_29 : decode cX7_keep 29 = .ok (.aload_n 0, 1) := by decide +kernel
theorem dX7_keep_30 : decode cX7_keep 30 = .ok (.getfield 9, 3) := by decide +kernel
theorem dX7_keep_33 : decode cX7_keep 33 = .ok (.iload_n 1, 1) := by decide +kernel
theorem dX7_keep_34 : decode cX7_keep 34 = .ok (.invokevirtual 65, 3) := by decide +kernel
theorem dX7_keep_37 : decode cX7_keep 37 = .ok (.iastore, 1) := by decide +kernel
theorem dX7_keep_38 : decode cX7_keep 38 = .ok (.aload_n 0, 1) := by decide +kernel
theorem dX7_keep_39 : decode cX7_keep 39 = .ok (.getfield 25, 3) := by decide +kernel
theorem dX7_keep_42 : decode cX7_keep 42 = .ok (.aload_n 0, 1) := by decide +kernel
theorem dX7_keep_43 : decode cX7_keep 43 = .ok (.getfield 32, 3) := by decide +kernel
theorem dX7_keep_46 : decode cX7_keep 46 = .ok (.aload_n 0, 1) := by decide +kernel
theorem dX7_keep_47 : decode cX7_keep 47 = .ok (.getfield 9, 3) := by decide +kernel
theorem dX7_keep_50 : decode cX7_keep 50 = .ok (.iload_n 1, 1) := by decide +kernel
theorem dX7_keep_51 : decode cX7_keep 51 = .ok (.invokevirtual 68, 3) := by decide +kernel
theorem dX7_keep_54 : decode cX7_keep 54 = .ok (.lastore, 1) := by decide +kernel
theorem dX7_keep_55 : decode cX7_keep 55 = .ok (.aload_n 0, 1) := by decide +kernel
theorem dX7_keep_56 : decode cX7_keep 56 = .ok (.getfield 22, 3) := by decide +kernel
theorem dX7_keep_59 : decode cX7_keep 59 = .ok (.aload_n 0, 1) := by decide +kernel
theorem dX7_keep_60 : decode cX7_keep 60 = .ok (.getfield 32, 3) := by decide +kernel
theorem dX7_keep_63 : decode cX7_keep 63 = .ok (.aload_n 0, 1) := by decide +kernel
theorem dX7_keep_64 : decode cX7_keep 64 = .ok (.getfield 9, 3) := by decide +kernel
theorem dX7_keep_67 : decode cX7_keep 67 = .ok (.iload_n 2, 1) := by decide +kernel
theorem dX7_keep_68 : decode cX7_keep 68 = .ok (.invokevirtual 65, 3) := by decide +kernel
theorem dX7_keep_71 : decode cX7_keep 71 = .ok (.iastore, 1) := by decide +kernel
theorem dX7_keep_72 : decode cX7_keep 72 = .ok (.aload_n 0, 1) := by decide +kernel
theorem dX7_keep_73 : decode cX7_keep 73 = .ok (.getfield 29, 3) := by decide +kernel
theorem dX7_keep_76 : decode cX7_keep 76 = .ok (.aload_n 0, 1) := by decide +kernel
theorem dX7_keep_77 : decode cX7_keep 77 = .ok (.getfield 32, 3) := by decide +kernel
theorem dX7_keep_80 : decode cX7_keep 80 = .ok (.aload_n 0, 1) := by decide +kernel
theorem dX7_keep_81 : decode cX7_keep 81 = .ok (.getfield 9, 3) := by decide +kernel
theorem dX7_keep_84 : decode cX7_keep 84 = .ok (.iload_n 2, 1) := by decide +kernel
theorem dX7_keep_85 : decode cX7_keep 85 = .ok (.invokevirtual 68, 3) := by decide +kernel
theorem dX7_keep_88 : decode cX7_keep 88 = .ok (.lastore, 1) := by decide +kernel
theorem dX7_keep_89 : decode cX7_keep 89 = .ok (.aload_n 0, 1) := by decide +kernel
theorem dX7_keep_90 : decode cX7_keep 90 = .ok (.dup, 1) := by decide +kernel
theorem dX7_keep_91 : decode cX7_keep 91 = .ok (.getfield 32, 3) := by decide +kernel
theorem dX7_keep_94 : decode cX7_keep 94 = .ok (.iconst 1, 1) := by decide +kernel
theorem dX7_keep_95 : decode cX7_keep 95 = .ok (.iadd, 1) := by decide +kernel
theorem dX7_keep_96 : decode cX7_keep 96 = .ok (.putfield 32, 3) := by decide +kernel
theorem dX7_keep_99 : decode cX7_keep 99 = .ok (.iconst 1, 1) := by decide +kernel
theorem dX7_keep_100 : decode cX7_keep 100 = .ok (.ireturn, 1) := by decide +kernel
theorem dX7_leftPart_0 : decode cX7_leftPart 0 = .ok (.iload_n 1, 1) := by decide +kernel
theorem dX7_leftPart_1 : decode cX7_leftPart 1 = .ok (.ifCond .lt 9, 3) := by decide +kernel
theorem dX7_leftPart_4 : decode cX7_leftPart 4 = .ok (.iload_n 1, 1) := by decide +kernel
theorem dX7_leftPart_5 : decode cX7_leftPart 5 = .ok (.bipush 40, 2) := by decide +kernel
theorem dX7_leftPart_7 : decode cX7_leftPart 7 = .ok (.if_icmp .lt 5, 3) := by decide +kernel
theorem dX7_leftPart_10 : decode cX7_leftPart 10 = .ok (.lconst 0, 1) := by decide +kernel
theorem dX7_leftPart_11 : decode cX7_leftPart 11 = .ok (.lreturn, 1) := by decide +kernel
theorem dX7_leftPart_12 : decode cX7_leftPart 12 = .ok (.aload_n 0, 1) := by decide +kernel
theorem dX7_leftPart_13 : decode cX7_leftPart 13 = .ok (.getfield 25, 3) := by decide +kernel
theorem dX7_leftPart_16 : decode cX7_leftPart 16 = .ok (.iload_n 1, 1) := by decide +kernel
theorem dX7_leftPart_17 : decode cX7_leftPart 17 = .ok (.laload, 1) := by decide +kernel
theorem dX7_leftPart_18 : decode cX7_leftPart 18 = .ok (.iconst 2, 1) := by decide +kernel
theorem dX7_leftPart_19 : decode cX7_leftPart 19 = .ok (.aload_n 0, 1) := by decide +kernel
theorem dX7_leftPart_20 : decode cX7_leftPart 20 = .ok (.getfield 19, 3) := by decide +kernel
theorem dX7_leftPart_23 : decode cX7_leftPart 23 = .ok (.iload_n 1, 1) := by decide +kernel
theorem dX7_leftPart_24 : decode cX7_leftPart 24 = .ok (.iaload, 1) := by decide +kernel
theorem dX7_leftPart_25 : decode cX7_leftPart 25 = .ok (.iload_n 3, 1) := by decide +kernel
theorem dX7_leftPart_26 : decode cX7_leftPart 26 = .ok (.isub, 1) := by decide +kernel
theorem dX7_leftPart_27 : decode cX7_leftPart 27 = .ok (.imul, 1) := by decide +kernel
theorem dX7_leftPart_28 : decode cX7_leftPart 28 = .ok (.lshr, 1) := by decide +kernel
theorem dX7_leftPart_29 : decode cX7_leftPart 29 = .ok (.lstore 4, 2) := by decide +kernel
theorem dX7_leftPart_31 : decode cX7_leftPart 31 = .ok (.lload 4, 2) := by decide +kernel
theorem dX7_leftPart_33 : decode cX7_leftPart 33 = .ok (.lconst 1, 1) := by decide +kernel
theorem dX7_leftPart_34 : decode cX7_leftPart 34 = .ok (.iconst 2, 1) := by decide +kernel
theorem dX7_leftPart_35 : decode cX7_leftPart 35 = .ok (.iload_n 3, 1) := by decide +kernel
theorem dX7_leftPart_36 : decode cX7_leftPart 36 = .ok (.iload_n 2, 1) := by decide +kernel
theorem dX7_leftPart_37 : decode cX7_leftPart 37 = .ok (.isub, 1) := by decide +kernel
theorem dX7_leftPart_38 : decode cX7_leftPart 38 = .ok (.imul, 1) := by decide +kernel
theorem dX7_leftPart_39 : decode cX7_leftPart 39 = .ok (.lshl, 1) := by decide +kernel
theorem dX7_leftPart_40 : decode cX7_leftPart 40 = .ok (.lconst 1, 1) := by decide +kernel
theorem dX7_leftPart_41 : decode cX7_leftPart 41 = .ok (.lsub, 1) := by decide +kernel
theorem dX7_leftPart_42 : decode cX7_leftPart 42 = .ok (.land, 1) := by decide +kernel
theorem dX7_leftPart_43 : decode cX7_leftPart 43 = .ok (.lreturn, 1) := by decide +kernel
set_option maxRecDepth 20000 in
theorem ggX7_numberOfBeginning_X8_firstOf : GoodIn wsX7_numberOfBeginning wsX8_firstOf := goodIn_r _ [8, 9, 10, 23, 24, 25, 26] (by decide +kernel) (by decide +kernel)
set_option maxRecDepth 20000 in
theorem gX7_numberOfBeginning_X8_firstOf : GoodIn wsX7_numberOfBeginning (wsV RX7 36 RX8 yX8_firstOf wsX8_firstOf) := goodIn_app (goodIn_of _ (by decide +kernel)) ggX7_numberOfBeginning_X8_firstOf
set_option maxRecDepth 20000 in
theorem ggX7_numberOfBeginning_X8_powerOf : GoodIn wsX7_numberOfBeginning wsX8_powerOf := goodIn_r _ [14, 9, 15, 23, 24, 25, 26] (by decide +kernel) (by decide +kernel)
set_option maxRecDepth 20000 in
theorem gX7_numberOfBeginning_X8_powerOf : GoodIn wsX7_numberOfBeginning (wsV RX7 42 RX8 yX8_powerOf wsX8_powerOf) := goodIn_app (goodIn_of _ (by decide +kernel)) ggX7_numberOfBeginning_X8_powerOf
theorem dX7_numberOfBeginning_0 : decode cX7_numberOfBeginning 0 = .ok (.iload_n 1, 1) := by decide +kernel
theorem dX7_numberOfBeginning_1 : decode cX7_numberOfBeginning 1 = .ok (.ifCond .lt 9, 3) := by decide +kernel
theorem dX7_numberOfBeginning_4 : decode cX7_numberOfBeginning 4 = .ok (.iload_n 1, 1) := by decide +kernel
theorem dX7_numberOfBeginning_5 : decode cX7_numberOfBeginning 5 = .ok (.bipush 40, 2) := by decide +kernel
theorem dX7_numberOfBeginning_7 : decode cX7_numberOfBeginning 7 = .ok (.if_icmp .lt 5, 3) := by decide +kernel
theorem dX7_numberOfBeginning_10 : decode cX7_numberOfBeginning 10 = .ok (.iconst 0, 1) := by decide +kernel
theorem dX7_numberOfBeginning_11 : decode cX7_numberOfBeginning 11 = .ok (.ireturn, 1) := by decide +kernel
theorem dX7_numberOfBeginning_12 : decode cX7_numberOfBeginning 12 = .ok (.aload_n 0, 1) := by decide +kernel
theorem dX7_numberOfBeginning_13 : decode cX7_numberOfBeginning 13 = .ok (.getfield 15, 3) := by decide +kernel
theorem dX7_numberOfBeginning_16 : decode cX7_numberOfBeginning 16 = .ok (.iload_n 1, 1) := by decide +kernel
theorem dX7_numberOfBeginning_17 : decode cX7_numberOfBeginning 17 = .ok (.iaload, 1) := by decide +kernel
theorem dX7_numberOfBeginning_18 : decode cX7_numberOfBeginning 18 = .ok (.aload_n 0, 1) := by decide +kernel
theorem dX7_numberOfBeginning_19 : decode cX7_numberOfBeginning 19 = .ok (.getfield 9, 3) := by decide +kernel
theorem dX7_numberOfBeginning_22 : decode cX7_numberOfBeginning 22 = .ok (.aload_n 0, 1) := by decide +kernel
theorem dX7_numberOfBeginning_23 : decode cX7_numberOfBeginning 23 = .ok (.getfield 19, 3) := by decide +kernel
theorem dX7_numberOfBeginning_26 : decode cX7_numberOfBeginning 26 = .ok (.iload_n 1, 1) := by decide +kernel
theorem dX7_numberOfBeginning_27 : decode cX7_numberOfBeginning 27 = .ok (.iaload, 1) := by decide +kernel
theorem dX7_numberOfBeginning_28 : decode cX7_numberOfBeginning 28 = .ok (.invokevirtual 36, 3) := by decide +kernel
theorem dX7_numberOfBeginning_31 : decode cX7_numberOfBeginning 31 = .ok (.isub, 1) := by decide +kernel
theorem dX7_numberOfBeginning_32 : decode cX7_numberOfBeginning 32 = .ok (.istore_n 3, 1) := by decide +kernel
theorem dX7_numberOfBeginning_33 : decode cX7_numberOfBeginning 33 = .ok (.aload_n 0, 1) := by decide +kernel
theorem dX7_numberOfBeginning_34 : decode cX7_numberOfBeginning 34 = .ok (.getfield 9, 3) := by decide +kernel
theorem dX7_numberOfBeginning_37 : decode cX7_numberOfBeginning 37 = .ok (.iload_n 2, 1) := by decide +kernel
theorem dX7_numberOfBeginning_38 : decode cX7_numberOfBeginning 38 = .ok (.invokevirtual 36, 3) := by decide +kernel
theorem dX7_numberOfBeginning_41 : decode cX7_numberOfBeginning 41 = .ok (.iload_n 3, 1) := by decide +kernel
theorem dX7_numberOfBeginning_42 : decode cX7_numberOfBeginning 42 = .ok (.aload_n 0, 1) := by decide +kernel
theorem dX7_numberOfBeginning_43 : decode cX7_numberOfBeginning 43 = .ok (.getfield 9, 3) := by decide +kernel
theorem dX7_numberOfBeginning_46 : decode cX7_numberOfBeginning 46 = .ok (.aload_n 0, 1) := by decide +kernel
theorem dX7_numberOfBeginning_47 : decode cX7_numberOfBeginning 47 = .ok (.getfield 19, 3) := by decide +kernel
theorem dX7_numberOfBeginning_50 : decode cX7_numberOfBeginning 50 = .ok (.iload_n 1, 1) := by decide +kernel
theorem dX7_numberOfBeginning_51 : decode cX7_numberOfBeginning 51 = .ok (.iaload, 1) := by decide +kernel
theorem dX7_numberOfBeginning_52 : decode cX7_numberOfBeginning 52 = .ok (.iload_n 2, 1) := by decide +kernel
theorem dX7_numberOfBeginning_53 : decode cX7_numberOfBeginning 53 = .ok (.isub, 1) := by decide +kernel
theorem dX7_numberOfBeginning_54 : decode cX7_numberOfBeginning 54 = .ok (.invokevirtual 42, 3) := by decide +kernel
theorem dX7_numberOfBeginning_57 : decode cX7_numberOfBeginning 57 = .ok (.idiv, 1) := by decide +kernel
theorem dX7_numberOfBeginning_58 : decode cX7_numberOfBeginning 58 = .ok (.iadd, 1) := by decide +kernel
theorem dX7_numberOfBeginning_59 : decode cX7_numberOfBeginning 59 = .ok (.ireturn, 1) := by decide +kernel
theorem dX7_packedRight_0 : decode cX7_packedRight 0 = .ok (.iload_n 1, 1) := by decide +kernel
theorem dX7_packedRight_1 : decode cX7_packedRight 1 = .ok (.ifCond .lt 29, 3) := by decide +kernel
theorem dX7_packedRight_4 : decode cX7_packedRight 4 = .ok (.iload_n 1, 1) := by decide +kernel
theorem dX7_packedRight_5 : decode cX7_packedRight 5 = .ok (.bipush 40, 2) := by decide +kernel
theorem dX7_packedRight_7 : decode cX7_packedRight 7 = .ok (.if_icmp .ge 23, 3) := by decide +kernel
theorem dX7_packedRight_10 : decode cX7_packedRight 10 = .ok (.aload_n 0, 1) := by decide +kernel
theorem dX7_packedRight_11 : decode cX7_packedRight 11 = .ok (.getfield 29, 3) := by decide +kernel
theorem dX7_packedRight_14 : decode cX7_packedRight 14 = .ok (.iload_n 1, 1) := by decide +kernel
theorem dX7_packedRight_15 : decode cX7_packedRight 15 = .ok (.laload, 1) := by decide +kernel
theorem dX7_packedRight_16 : decode cX7_packedRight 16 = .ok (.lconst 1, 1) := by decide +kernel
theorem dX7_packedRight_17 : decode cX7_packedRight 17 = .ok (.iconst 2, 1) := by decide +kernel
theorem dX7_packedRight_18 : decode cX7_packedRight 18 = .ok (.aload_n 0, 1) := by decide +kernel
theorem dX7_packedRight_19 : decode cX7_packedRight 19 = .ok (.getfield 22, 3) := by decide +kernel
theorem dX7_packedRight_22 : decode cX7_packedRight 22 = .ok (.iload_n 1, 1) := by decide +kernel
theorem dX7_packedRight_23 : decode cX7_packedRight 23 = .ok (.iaload, 1) := by decide +kernel
theorem dX7_packedRight_24 : decode cX7_packedRight 24 = .ok (.imul, 1) := by decide +kernel
theorem dX7_packedRight_25 : decode cX7_packedRight 25 = .ok (.lshl, 1) := by decide +kernel
theorem dX7_packedRight_26 : decode cX7_packedRight 26 = .ok (.lor, 1) := by decide +kernel
theorem dX7_packedRight_27 : decode cX7_packedRight 27 = .ok (.goto 4, 3) := by decide +kernel
theorem dX7_packedRight_30 : decode cX7_packedRight 30 = .ok (.lconst 1, 1) := by decide +kernel
theorem dX7_packedRight_31 : decode cX7_packedRight 31 = .ok (.lreturn, 1) := by decide +kernel
theorem dX7_signAt_0 : decode cX7_signAt 0 = .ok (.iload_n 1, 1) := by decide +kernel
theorem dX7_signAt_1 : decode cX7_signAt 1 = .ok (.ifCond .lt 9, 3) := by decide +kernel
theorem dX7_signAt_4 : decode cX7_signAt 4 = .ok (.iload_n 1, 1) := by decide +kernel
theorem dX7_signAt_5 : decode cX7_signAt 5 = .ok (.bipush 40, 2) := by decide +kernel
theorem dX7_signAt_7 : decode cX7_signAt 7 = .ok (.if_icmp .lt 5, 3) := by decide +kernel
theorem dX7_signAt_10 : decode cX7_signAt 10 = .ok (.iconst 0, 1) := by decide +kernel
theorem dX7_signAt_11 : decode cX7_signAt 11 = .ok (.ireturn, 1) := by decide +kernel
theorem dX7_signAt_12 : decode cX7_signAt 12 = .ok (.iload_n 2, 1) := by decide +kernel
theorem dX7_signAt_13 : decode cX7_signAt 13 = .ok (.ifCond .eq 12, 3) := by decide +kernel
theorem dX7_signAt_16 : decode cX7_signAt 16 = .ok (.aload_n 0, 1) := by decide +kernel
theorem dX7_signAt_17 : decode cX7_signAt 17 = .ok (.getfield 19, 3) := by decide +kernel
theorem dX7_signAt_20 : decode cX7_signAt 20 = .ok (.iload_n 1, 1) := by decide +kernel
theorem dX7_signAt_21 : decode cX7_signAt 21 = .ok (.iaload, 1) := by decide +kernel
theorem dX7_signAt_22 : decode cX7_signAt 22 = .ok (.goto 9, 3) := by decide +kernel
theorem dX7_signAt_25 : decode cX7_signAt 25 = .ok (.aload_n 0, 1) := by decide +kernel
theorem dX7_signAt_26 : decode cX7_signAt 26 = .ok (.getfield 22, 3) := by decide +kernel
theorem dX7_signAt_29 : decode cX7_signAt 29 = .ok (.iload_n 1, 1) := by decide +kernel
theorem dX7_signAt_30 : decode cX7_signAt 30 = .ok (.iaload, 1) := by decide +kernel
theorem dX7_signAt_31 : decode cX7_signAt 31 = .ok (.iconst 1, 1) := by decide +kernel
theorem dX7_signAt_32 : decode cX7_signAt 32 = .ok (.isub, 1) := by decide +kernel
theorem dX7_signAt_33 : decode cX7_signAt 33 = .ok (.iload_n 3, 1) := by decide +kernel
theorem dX7_signAt_34 : decode cX7_signAt 34 = .ok (.isub, 1) := by decide +kernel
theorem dX7_signAt_35 : decode cX7_signAt 35 = .ok (.istore 4, 2) := by decide +kernel
theorem dX7_signAt_37 : decode cX7_signAt 37 = .ok (.iload_n 2, 1) := by decide +kernel
theorem dX7_signAt_38 : decode cX7_signAt 38 = .ok (.ifCond .eq 12, 3) := by decide +kernel
theorem dX7_signAt_41 : decode cX7_signAt 41 = .ok (.aload_n 0, 1) := by decide +kernel
theorem dX7_signAt_42 : decode cX7_signAt 42 = .ok (.getfield 25, 3) := by decide +kernel
theorem dX7_signAt_45 : decode cX7_signAt 45 = .ok (.iload_n 1, 1) := by decide +kernel
theorem dX7_signAt_46 : decode cX7_signAt 46 = .ok (.laload, 1) := by decide +kernel
theorem dX7_signAt_47 : decode cX7_signAt 47 = .ok (.goto 9, 3) := by decide +kernel
theorem dX7_signAt_50 : decode cX7_signAt 50 = .ok (.aload_n 0, 1) := by decide +kernel
theorem dX7_signAt_51 : decode cX7_signAt 51 = .ok (.getfield 29, 3) := by decide +kernel
theorem dX7_signAt_54 : decode cX7_signAt 54 = .ok (.iload_n 1, 1) := by decide +kernel
theorem dX7_signAt_55 : decode cX7_signAt 55 = .ok (.laload, 1) := by decide +kernel
theorem dX7_signAt_56 : decode cX7_signAt 56 = .ok (.iconst 2, 1) := by decide +kernel
theorem dX7_signAt_57 : decode cX7_signAt 57 = .ok (.iload 4, 2) := by decide +kernel
theorem dX7_signAt_59 : decode cX7_signAt 59 = .ok (.imul, 1) := by decide +kernel
theorem dX7_signAt_60 : decode cX7_signAt 60 = .ok (.lshr, 1) := by decide +kernel
theorem dX7_signAt_61 : decode cX7_signAt 61 = .ok (.l2i, 1) := by decide +kernel
theorem dX7_signAt_62 : decode cX7_signAt 62 = .ok (.iconst 3, 1) := by decide +kernel
theorem dX7_signAt_63 : decode cX7_signAt 63 = .ok (.iand, 1) := by decide +kernel
theorem dX7_signAt_64 : decode cX7_signAt 64 = .ok (.ireturn, 1) := by decide +kernel
theorem dX7_spanOf_0 : decode cX7_spanOf 0 = .ok (.iload_n 1, 1) := by decide +kernel
theorem dX7_spanOf_1 : decode cX7_spanOf 1 = .ok (.ifCond .lt 9, 3) := by decide +kernel
theorem dX7_spanOf_4 : decode cX7_spanOf 4 = .ok (.iload_n 1, 1) := by decide +kernel
theorem dX7_spanOf_5 : decode cX7_spanOf 5 = .ok (.bipush 40, 2) := by decide +kernel
theorem dX7_spanOf_7 : decode cX7_spanOf 7 = .ok (.if_icmp .lt 5, 3) := by decide +kernel
theorem dX7_spanOf_10 : decode cX7_spanOf 10 = .ok (.iconst 0, 1) := by decide +kernel
theorem dX7_spanOf_11 : decode cX7_spanOf 11 = .ok (.ireturn, 1) := by decide +kernel
theorem dX7_spanOf_12 : decode cX7_spanOf 12 = .ok (.iload_n 2, 1) := by decide +kernel
theorem dX7_spanOf_13 : decode cX7_spanOf 13 = .ok (.ifCond .eq 12, 3) := by decide +kernel
theorem dX7_spanOf_16 : decode cX7_spanOf 16 = .ok (.aload_n 0, 1) := by decide +kernel
theorem dX7_spanOf_17 : decode cX7_spanOf 17 = .ok (.getfield 19, 3) := by decide +kernel
theorem dX7_spanOf_20 : decode cX7_spanOf 20 = .ok (.iload_n 1, 1) := by decide +kernel
theorem dX7_spanOf_21 : decode cX7_spanOf 21 = .ok (.iaload, 1) := by decide +kernel
theorem dX7_spanOf_22 : decode cX7_spanOf 22 = .ok (.goto 9, 3) := by decide +kernel
theorem dX7_spanOf_25 : decode cX7_spanOf 25 = .ok (.aload_n 0, 1) := by decide +kernel
theorem dX7_spanOf_26 : decode cX7_spanOf 26 = .ok (.getfield 22, 3) := by decide +kernel
theorem dX7_spanOf_29 : decode cX7_spanOf 29 = .ok (.iload_n 1, 1) := by decide +kernel
theorem dX7_spanOf_30 : decode cX7_spanOf 30 = .ok (.iaload, 1) := by decide +kernel
theorem dX7_spanOf_31 : decode cX7_spanOf 31 = .ok (.ireturn, 1) := by decide +kernel
set_option maxRecDepth 20000 in
theorem ggX7_withLeft_X11_placeOf : GoodIn wsX7_withLeft wsX11_placeOf := goodIn_r _ [5, 6, 7, 8, 9] (by decide +kernel) (by decide +kernel)
set_option maxRecDepth 20000 in
theorem gX7_withLeft_X11_placeOf_n87 : GoodIn wsX7_withLeft (wsX11_placeOf) := ggX7_withLeft_X11_placeOf
theorem dX7_withLeft_0 : decode cX7_withLeft 0 = .ok (.aload_n 0, 1) := by decide +kernel
theorem dX7_withLeft_1 : decode cX7_withLeft 1 = .ok (.getfield 15, 3) := by decide +kernel
theorem dX7_withLeft_4 : decode cX7_withLeft 4 = .ok (.aload_n 0, 1) := by decide +kernel
theorem dX7_withLeft_5 : decode cX7_withLeft 5 = .ok (.getfield 32, 3) := by decide +kernel
theorem dX7_withLeft_8 : decode cX7_withLeft 8 = .ok (.iload_n 1, 1) := by decide +kernel
theorem dX7_withLeft_9 : decode cX7_withLeft 9 = .ok (.invokestatic 87, 3) := by decide +kernel
theorem dX7_withLeft_12 : decode cX7_withLeft 12 = .ok (.ireturn, 1) := by decide +kernel
