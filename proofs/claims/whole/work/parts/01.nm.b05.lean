set_option maxRecDepth 20000 in
theorem ggX11_rank_X11_isSlot : GoodIn wsX11_rank wsX11_isSlot := goodIn_r _ [13] (by decide +kernel) (by decide +kernel)
set_option maxRecDepth 20000 in
theorem gX11_rank_X11_isSlot : GoodIn wsX11_rank (wsV RX11 126 RX11 yX11_isSlot wsX11_isSlot) := goodIn_app (goodIn_of _ (by decide +kernel)) ggX11_rank_X11_isSlot
set_option maxRecDepth 20000 in
theorem ggX11_rank_X11_isProved : GoodIn wsX11_rank wsX11_isProved := goodIn_r _ [17, 18, 19, 20, 21, 12, 22, 23, 289, 290, 291, 292, 293, 294, 295, 296, 297, 298, 299, 300, 301, 302, 303, 304, 305] (by decide +kernel) (by decide +kernel)
set_option maxRecDepth 20000 in
theorem gX11_rank_X11_isProved : GoodIn wsX11_rank (wsV RX11 204 RX11 yX11_isProved wsX11_isProved) := goodIn_app (goodIn_of _ (by decide +kernel)) ggX11_rank_X11_isProved
set_option maxRecDepth 20000 in
theorem ggX11_rank_X6_run : GoodIn wsX11_rank wsX6_run := goodIn_r _ [28, 29, 30, 31, 32, 33, 34, 35, 36, 37, 38, 39, 40, 41, 42, 43, 44, 45, 46, 47, 48, 49, 50, 51, 27, 52, 53, 54, 55, 56, 57, 58, 59, 60, 61, 62, 63, 64, 65, 66, 67, 68, 69, 70, 71, 72, 73, 74, 75, 76, 77, 78, 79, 80, 81, 82, 83, 84, 85, 86, 87, 88, 89, 90, 91, 92, 93, 94, 95, 96, 97, 98, 99, 100, 101, 102, 103, 104, 105, 106, 107, 108, 109, 110, 111, 112, 113, 114, 115, 116, 117, 118, 119, 120, 121, 122, 123, 124, 125, 126, 127, 128, 129, 130, 131, 132, 133, 134, 135, 136, 137, 138, 139, 140, 141, 142, 143, 144, 145, 146, 147, 148, 149, 150, 151, 152, 153, 154, 155, 156, 157, 158, 159, 160, 161, 162, 163, 164, 165, 166, 167, 168, 169, 170, 171, 172, 173, 174, 175, 176, 177, 178, 179, 180, 181, 182, 183, 184, 185, 186, 187, 188, 189, 190, 191, 192, 193, 194, 195, 196, 197, 198, 199, 200, 201, 202, 203, 204, 205, 206, 207, 208, 209, 210, 211, 212, 213, 214, 215, 216, 217, 218, 219, 220, 221, 222, 223, 224, 225, 226, 227, 228, 229, 230, 231, 232, 233, 234, 235, 236, 237, 238, 239, 240, 241, 242, 243, 244, 245, 12, 246, 247, 248, 249, 250, 251, 252, 253, 254, 255, 256, 257, 258, 259, 260, 261, 262, 263, 308, 309, 310, 311, 312, 313, 306, 307, 314, 315, 316, 317, 318, 319, 320, 321, 322, 323, 324, 325, 326, 327, 328, 329, 330, 331, 332, 333, 334, 335, 336, 337, 338, 339, 340, 341, 342, 343, 344, 345, 346, 347, 348, 349, 350, 351, 352, 353, 354, 355, 356] rfl (by decide +kernel)
set_option maxRecDepth 20000 in
theorem gX11_rank_X6_run : GoodIn wsX11_rank (wsV RX11 238 RX6 yX6_run wsX6_run) := goodIn_app (goodIn_of _ (by decide +kernel)) ggX11_rank_X6_run
set_option maxRecDepth 20000 in
theorem ggX11_rank_X3_numberOf : GoodIn wsX11_rank wsX3_numberOf := goodIn_r _ [267, 173, 174, 268, 117, 33, 118, 269, 270, 271, 57, 272, 273, 274, 275, 276, 277, 61, 278, 279, 280, 281, 282, 59, 60, 283, 284, 55, 56, 58, 62, 285, 286, 287, 288, 306, 307, 329, 330, 331, 332, 333, 334, 335, 336, 337, 338, 339, 340, 341, 342] rfl (by decide +kernel)
set_option maxRecDepth 20000 in
theorem gX11_rank_X3_numberOf : GoodIn wsX11_rank (wsV RX11 242 RX3 yX3_numberOf wsX3_numberOf) := goodIn_app (goodIn_of _ (by decide +kernel)) ggX11_rank_X3_numberOf
theorem dX11_rank_0 : decode cX11_rank 0 = .ok (.aload_n 0, 1) := by decide +kernel
theorem dX11_rank_1 : decode cX11_rank 1 = .ok (.iload_n 1, 1) := by decide +kernel
theorem dX11_rank_2 : decode cX11_rank 2 = .ok (.invokevirtual 126, 3) := by decide +kernel
theorem dX11_rank_5 : decode cX11_rank 5 = .ok (.ifCond .ne 7, 3) := by decide +kernel
theorem dX11_rank_8 : decode cX11_rank 8 = .ok (.ldc2_w 236, 3) := by decide +kernel
theorem dX11_rank_11 : decode cX11_rank 11 = .ok (.lreturn, 1) := by decide +kernel
theorem dX11_rank_12 : decode cX11_rank 12 = .ok (.aload_n 0, 1) := by decide +kernel
theorem dX11_rank_13 : decode cX11_rank 13 = .ok (.invokevirtual 204, 3) := by decide +kernel
theorem dX11_rank_16 : decode cX11_rank 16 = .ok (.ifCond .ne 7, 3) := by decide +kernel
theorem dX11_rank_19 : decode cX11_rank 19 = .ok (.ldc2_w 219, 3) := by decide +kernel
theorem dX11_rank_22 : decode cX11_rank 22 = .ok (.lreturn, 1) := by decide +kernel
theorem dX11_rank_23 : decode cX11_rank 23 = .ok (.aload_n 0, 1) := by decide +kernel
theorem dX11_rank_24 : decode cX11_rank 24 = .ok (.getfield 62, 3) := by decide +kernel
theorem dX11_rank_27 : decode cX11_rank 27 = .ok (.aload_n 0, 1) := by decide +kernel
theorem dX11_rank_28 : decode cX11_rank 28 = .ok (.getfield 25, 3) := by decide +kernel
theorem dX11_rank_31 : decode cX11_rank 31 = .ok (.iload_n 1, 1) := by decide +kernel
theorem dX11_rank_32 : decode cX11_rank 32 = .ok (.aaload, 1) := by decide +kernel
theorem dX11_rank_33 : decode cX11_rank 33 = .ok (.aload_n 0, 1) := by decide +kernel
theorem dX11_rank_34 : decode cX11_rank 34 = .ok (.getfield 66, 3) := by decide +kernel
theorem dX11_rank_37 : decode cX11_rank 37 = .ok (.invokevirtual 238, 3) := by decide +kernel
theorem dX11_rank_40 : decode cX11_rank 40 = .ok (.ifCond .eq 15, 3) := by decide +kernel
theorem dX11_rank_43 : decode cX11_rank 43 = .ok (.aload_n 0, 1) := by decide +kernel
theorem dX11_rank_44 : decode cX11_rank 44 = .ok (.getfield 66, 3) := by decide +kernel
theorem dX11_rank_47 : decode cX11_rank 47 = .ok (.getfield 123, 3) := by decide +kernel
theorem dX11_rank_50 : decode cX11_rank 50 = .ok (.bipush 30, 2) := by decide +kernel
theorem dX11_rank_52 : decode cX11_rank 52 = .ok (.if_icmp .le 7, 3) := by decide +kernel
theorem dX11_rank_55 : decode cX11_rank 55 = .ok (.ldc2_w 226, 3) := by decide +kernel
theorem dX11_rank_58 : decode cX11_rank 58 = .ok (.lreturn, 1) := by decide +kernel
theorem dX11_rank_59 : decode cX11_rank 59 = .ok (.aload_n 0, 1) := by decide +kernel
theorem dX11_rank_60 : decode cX11_rank 60 = .ok (.getfield 53, 3) := by decide +kernel
theorem dX11_rank_63 : decode cX11_rank 63 = .ok (.aload_n 0, 1) := by decide +kernel
theorem dX11_rank_64 : decode cX11_rank 64 = .ok (.getfield 66, 3) := by decide +kernel
theorem dX11_rank_67 : decode cX11_rank 67 = .ok (.invokevirtual 242, 3) := by decide +kernel
theorem dX11_rank_70 : decode cX11_rank 70 = .ok (.lreturn, 1) := by decide +kernel
set_option maxRecDepth 20000 in
theorem ggX11_reduce_X11_isSlot : GoodIn wsX11_reduce wsX11_isSlot := goodIn_r _ [7] (by decide +kernel) (by decide +kernel)
set_option maxRecDepth 20000 in
theorem gX11_reduce_X11_isSlot : GoodIn wsX11_reduce (wsV RX11 126 RX11 yX11_isSlot wsX11_isSlot) := goodIn_app (goodIn_of _ (by decide +kernel)) ggX11_reduce_X11_isSlot
set_option maxRecDepth 20000 in
theorem ggX11_reduce_X11_bringDown : GoodIn wsX11_reduce wsX11_bringDown := goodIn_r _ [11, 12, 13, 14, 15, 16, 17, 18, 19, 20, 6, 21, 22, 23, 24, 25, 26, 27, 28, 29, 30, 31, 32, 33, 34, 35, 36, 37, 38, 39, 40, 41, 42, 43, 44, 45, 46, 47, 48, 49, 50, 51, 52, 53, 54, 55, 56, 57, 58, 59, 60, 61, 62, 63, 64, 65, 66, 67, 68, 69, 70, 71, 72, 73, 74, 75, 76, 77, 78, 79, 80, 81, 82, 83, 84, 85, 86, 87, 88, 89, 90, 91, 92, 93, 94, 95, 96, 97, 98, 99, 100, 101, 102, 103, 104, 105, 106, 107, 108, 109, 110, 111, 112, 113, 114, 115, 116, 117, 118, 119, 120, 121, 122, 123, 124, 125, 126, 127, 128, 129, 130, 131, 132, 133, 134, 135, 136, 137, 138, 139, 140, 141, 142, 143, 144, 145, 146, 147, 148, 149, 150, 151, 152, 153, 154, 155, 156, 157, 158, 159, 160, 161, 162, 163, 164, 165, 166, 167, 168, 169, 170, 171, 172, 173, 174, 175, 176, 177, 178, 179, 180, 181, 182, 183, 184, 185, 186, 187, 188, 189, 190, 191, 192, 193, 194, 195, 196, 197, 198, 199, 200, 201, 202, 203, 204, 205, 206, 207, 208, 209, 210, 211, 212, 213, 214, 215, 216, 217, 218, 219, 220, 221, 222, 223, 224, 225, 226, 227, 228, 229, 230, 231, 232, 233, 234, 235, 236, 237, 238, 239, 240, 241, 242, 243, 244, 245, 246, 247, 248, 249, 250, 251, 252, 253, 254, 255, 256, 257, 258, 259, 260, 261, 262, 263, 264, 265, 266, 267, 268, 269, 270, 271, 272, 273, 274, 275, 276, 277, 278, 279, 280, 281, 282, 283, 284, 285, 286, 287, 288, 289, 290, 291, 292, 293, 294, 295, 296, 297, 298, 299, 300, 302, 303, 304, 305, 306, 307, 308, 309, 310, 311, 312, 313, 314, 315, 316, 317, 318, 319, 320, 321, 322, 323, 324, 325, 326, 327, 328, 329, 330, 331, 332, 333, 334, 335, 336, 337, 338, 339, 340, 341, 342, 343, 344, 345, 346, 347, 348, 349, 350, 351, 352, 353, 354, 355, 356, 357, 358, 359, 360, 361, 362, 363, 364, 365, 366, 367, 368, 369, 370, 371, 372] rfl (by decide +kernel)
set_option maxRecDepth 20000 in
theorem gX11_reduce_X11_bringDown : GoodIn wsX11_reduce (wsV RX11 196 RX11 yX11_bringDown wsX11_bringDown) := goodIn_app (goodIn_of _ (by decide +kernel)) ggX11_reduce_X11_bringDown
set_option maxRecDepth 20000 in
theorem ggX11_reduce_X10_take : GoodIn wsX11_reduce wsX10_take := goodIn_r _ [241, 64, 69, 242, 78, 79, 80, 319, 320] (by decide +kernel) (by decide +kernel)
set_option maxRecDepth 20000 in
theorem gX11_reduce_X10_take : GoodIn wsX11_reduce (wsV RX11 129 RX10 yX10_take wsX10_take) := goodIn_app (goodIn_of _ (by decide +kernel)) ggX11_reduce_X10_take
theorem dX11_reduce_0 : decode cX11_reduce 0 = .ok (.aload_n 0, 1) := by decide +kernel
theorem dX11_reduce_1 : decode cX11_reduce 1 = .ok (.iload_n 1, 1) := by decide +kernel
theorem dX11_reduce_2 : decode cX11_reduce 2 = .ok (.invokevirtual 126, 3) := by decide +kernel
theorem dX11_reduce_5 : decode cX11_reduce 5 = .ok (.ifCond .eq 11, 3) := by decide +kernel
theorem dX11_reduce_8 : decode cX11_reduce 8 = .ok (.aload_n 0, 1) := by decide +kernel
theorem dX11_reduce_9 : decode cX11_reduce 9 = .ok (.iload_n 2, 1) := by decide +kernel
theorem dX11_reduce_10 : decode cX11_reduce 10 = .ok (.invokevirtual 126, 3) := by decide +kernel
theorem dX11_reduce_13 : decode cX11_reduce 13 = .ok (.ifCond .ne 5, 3) := by decide +kernel
theorem dX11_reduce_16 : decode cX11_reduce 16 = .ok (.iconst (-1), 1) := by decide +kernel
theorem dX11_reduce_17 : decode cX11_reduce 17 = .ok (.ireturn, 1) := by decide +kernel
theorem dX11_reduce_18 : decode cX11_reduce 18 = .ok (.aload_n 0, 1) := by decide +kernel
theorem dX11_reduce_19 : decode cX11_reduce 19 = .ok (.aload_n 0, 1) := by decide +kernel
theorem dX11_reduce_20 : decode cX11_reduce 20 = .ok (.getfield 25, 3) := by decide +kernel
theorem dX11_reduce_23 : decode cX11_reduce 23 = .ok (.iload_n 1, 1) := by decide +kernel
theorem dX11_reduce_24 : decode cX11_reduce 24 = .ok (.aaload, 1) := by decide +kernel
theorem dX11_reduce_25 : decode cX11_reduce 25 = .ok (.aload_n 0, 1) := by decide +kernel
theorem dX11_reduce_26 : decode cX11_reduce 26 = .ok (.getfield 66, 3) := by decide +kernel
theorem dX11_reduce_29 : decode cX11_reduce 29 = .ok (.invokevirtual 196, 3) := by decide +kernel
theorem dX11_reduce_32 : decode cX11_reduce 32 = .ok (.istore_n 3, 1) := by decide +kernel
theorem dX11_reduce_33 : decode cX11_reduce 33 = .ok (.iload_n 3, 1) := by decide +kernel
theorem dX11_reduce_34 : decode cX11_reduce 34 = .ok (.ifCond .lt 16, 3) := by decide +kernel
theorem dX11_reduce_37 : decode cX11_reduce 37 = .ok (.aload_n 0, 1) := by decide +kernel
theorem dX11_reduce_38 : decode cX11_reduce 38 = .ok (.getfield 25, 3) := by decide +kernel
theorem dX11_reduce_41 : decode cX11_reduce 41 = .ok (.iload_n 2, 1) := by decide +kernel
theorem dX11_reduce_42 : decode cX11_reduce 42 = .ok (.aaload, 1) := by decide +kernel
theorem dX11_reduce_43 : decode cX11_reduce 43 = .ok (.aload_n 0, 1) := by decide +kernel
theorem dX11_reduce_44 : decode cX11_reduce 44 = .ok (.getfield 66, 3) := by decide +kernel
theorem dX11_reduce_47 : decode cX11_reduce 47 = .ok (.invokevirtual 129, 3) := by decide +kernel
theorem dX11_reduce_50 : decode cX11_reduce 50 = .ok (.iload_n 3, 1) := by decide +kernel
theorem dX11_reduce_51 : decode cX11_reduce 51 = .ok (.ireturn, 1) := by decide +kernel
set_option maxRecDepth 20000 in
theorem ggX11_rule_X11_isSeen : GoodIn wsX11_rule wsX11_isSeen := goodIn_r _ [6, 7, 26, 27, 28, 29, 30, 31, 32, 33, 34, 35, 36, 37, 38, 39, 40, 41, 42] (by decide +kernel) (by decide +kernel)
set_option maxRecDepth 20000 in
theorem gX11_rule_X11_isSeen : GoodIn wsX11_rule (wsV RX11 178 RX11 yX11_isSeen wsX11_isSeen) := goodIn_app (goodIn_of _ (by decide +kernel)) ggX11_rule_X11_isSeen
set_option maxRecDepth 20000 in
theorem ggX11_rule_X7_has : GoodIn wsX11_rule wsX7_has := goodIn_r _ [12, 13, 43, 44, 45, 46, 47, 48, 49] (by decide +kernel) (by decide +kernel)
set_option maxRecDepth 20000 in
theorem gX11_rule_X7_has : GoodIn wsX11_rule (wsV RX11 185 RX7 yX7_has wsX7_has) := goodIn_app (goodIn_of _ (by decide +kernel)) ggX11_rule_X7_has
set_option maxRecDepth 20000 in
theorem ggX11_rule_X7_spanOf : GoodIn wsX11_rule wsX7_spanOf := goodIn_r _ [17, 18, 19, 43, 44, 45, 46, 47, 48, 49] (by decide +kernel) (by decide +kernel)
set_option maxRecDepth 20000 in
theorem gX11_rule_X7_spanOf : GoodIn wsX11_rule (wsV RX11 188 RX7 yX7_spanOf wsX7_spanOf) := goodIn_app (goodIn_of _ (by decide +kernel)) ggX11_rule_X7_spanOf
set_option maxRecDepth 20000 in
theorem ggX11_rule_X7_signAt : GoodIn wsX11_rule wsX7_signAt := goodIn_r _ [23, 18, 19, 24, 25, 43, 44, 45, 46, 47, 48, 49] (by decide +kernel) (by decide +kernel)
set_option maxRecDepth 20000 in
theorem gX11_rule_X7_signAt : GoodIn wsX11_rule (wsV RX11 192 RX7 yX7_signAt wsX7_signAt) := goodIn_app (goodIn_of _ (by decide +kernel)) ggX11_rule_X7_signAt
theorem dX11_rule_0 : decode cX11_rule 0 = .ok (.aload_n 0, 1) := by decide +kernel
theorem dX11_rule_1 : decode cX11_rule 1 = .ok (.invokevirtual 178, 3) := by decide +kernel
theorem dX11_rule_4 : decode cX11_rule 4 = .ok (.ifCond .ne 6, 3) := by decide +kernel
theorem dX11_rule_7 : decode cX11_rule 7 = .ok (.bipush (-3), 2) := by decide +kernel
theorem dX11_rule_9 : decode cX11_rule 9 = .ok (.ireturn, 1) := by decide +kernel
theorem dX11_rule_10 : decode cX11_rule 10 = .ok (.aload_n 0, 1) := by decide +kernel
theorem dX11_rule_11 : decode cX11_rule 11 = .ok (.getfield 44, 3) := by decide +kernel
theorem dX11_rule_14 : decode cX11_rule 14 = .ok (.iload_n 1, 1) := by decide +kernel
theorem dX11_rule_15 : decode cX11_rule 15 = .ok (.invokevirtual 185, 3) := by decide +kernel
theorem dX11_rule_18 : decode cX11_rule 18 = .ok (.ifCond .ne 5, 3) := by decide +kernel
theorem dX11_rule_21 : decode cX11_rule 21 = .ok (.iconst (-1), 1) := by decide +kernel
theorem dX11_rule_22 : decode cX11_rule 22 = .ok (.ireturn, 1) := by decide +kernel
theorem dX11_rule_23 : decode cX11_rule 23 = .ok (.iload_n 3, 1) := by decide +kernel
theorem dX11_rule_24 : decode cX11_rule 24 = .ok (.ifCond .lt 29, 3) := by decide +kernel
theorem dX11_rule_27 : decode cX11_rule 27 = .ok (.iload_n 3, 1) := by decide +kernel
theorem dX11_rule_28 : decode cX11_rule 28 = .ok (.aload_n 0, 1) := by decide +kernel
theorem dX11_rule_29 : decode cX11_rule 29 = .ok (.getfield 44, 3) := by decide +kernel
theorem dX11_rule_32 : decode cX11_rule 32 = .ok (.iload_n 1, 1) := by decide +kernel
theorem dX11_rule_33 : decode cX11_rule 33 = .ok (.iload_n 2, 1) := by decide +kernel
theorem dX11_rule_34 : decode cX11_rule 34 = .ok (.invokevirtual 188, 3) := by decide +kernel
theorem dX11_rule_37 : decode cX11_rule 37 = .ok (.if_icmp .ge 16, 3) := by decide +kernel
theorem dX11_rule_40 : decode cX11_rule 40 = .ok (.aload_n 0, 1) := by decide +kernel
theorem dX11_rule_41 : decode cX11_rule 41 = .ok (.getfield 44, 3) := by decide +kernel
theorem dX11_rule_44 : decode cX11_rule 44 = .ok (.iload_n 1, 1) := by decide +kernel
theorem dX11_rule_45 : decode cX11_rule 45 = .ok (.iload_n 2, 1) := by decide +kernel
theorem dX11_rule_46 : decode cX11_rule 46 = .ok (.iload_n 3, 1) := by decide +kernel
theorem dX11_rule_47 : decode cX11_rule 47 = .ok (.invokevirtual 192, 3) := by decide +kernel
theorem dX11_rule_50 : decode cX11_rule 50 = .ok (.goto 5, 3) := by decide +kernel
theorem dX11_rule_53 : decode cX11_rule 53 = .ok (.bipush (-9), 2) := by decide +kernel
theorem dX11_rule_55 : decode cX11_rule 55 = .ok (.ireturn, 1) := by decide +kernel
set_option maxRecDepth 20000 in
theorem ggX11_see_X11_forget : GoodIn wsX11_see wsX11_forget := goodIn_r _ [17, 11, 10, 446, 447, 448, 449, 450, 451, 452, 453, 454, 455, 456, 457, 458, 459, 460, 461, 462] (by decide +kernel) (by decide +kernel)
set_option maxRecDepth 20000 in
theorem gX11_see_X11_forget : GoodIn wsX11_see (wsV RX11 113 RX11 yX11_forget wsX11_forget) := goodIn_app (goodIn_of _ (by decide +kernel)) ggX11_see_X11_forget
set_option maxRecDepth 20000 in
theorem ggX11_see_X8_countTo : GoodIn wsX11_see wsX8_countTo := goodIn_r _ [22, 23, 24, 463, 464, 465, 466] (by decide +kernel) (by decide +kernel)
set_option maxRecDepth 20000 in
theorem gX11_see_X8_countTo : GoodIn wsX11_see (wsV RX11 140 RX8 yX8_countTo wsX8_countTo) := goodIn_app (goodIn_of _ (by decide +kernel)) ggX11_see_X8_countTo
set_option maxRecDepth 20000 in
theorem ggX11_see_X1_begin : GoodIn wsX11_see wsX1_begin := goodIn_r _ [29, 30, 31, 32, 33, 34, 35, 474, 475, 476] (by decide +kernel) (by decide +kernel)
set_option maxRecDepth 20000 in
theorem gX11_see_X1_begin : GoodIn wsX11_see (wsV RX11 143 RX1 yX1_begin wsX1_begin) := goodIn_app (goodIn_of _ (by decide +kernel)) ggX11_see_X1_begin
set_option maxRecDepth 20000 in
theorem ggX11_see_X1_joinByLaw : GoodIn wsX11_see wsX1_joinByLaw := goodIn_r _ [39, 40, 41, 42, 33, 43, 44, 45, 46, 47, 48, 49, 50, 51, 52, 53, 28, 54, 55, 56, 57, 21, 58, 23, 59, 60, 61, 62, 63, 24, 64, 65, 66, 67, 68, 69, 70, 71, 72, 73, 74, 35, 30, 75, 76, 77, 78, 477, 478, 463, 464, 465, 466, 474, 475, 476] rfl (by decide +kernel)
set_option maxRecDepth 20000 in
theorem gX11_see_X1_joinByLaw : GoodIn wsX11_see (wsV RX11 146 RX1 yX1_joinByLaw wsX1_joinByLaw) := goodIn_app (goodIn_of _ (by decide +kernel)) ggX11_see_X1_joinByLaw
set_option maxRecDepth 20000 in
theorem ggX11_see_X1_settle : GoodIn wsX11_see wsX1_settle := goodIn_r _ [82, 83, 35, 30, 474, 475, 476] (by decide +kernel) (by decide +kernel)
set_option maxRecDepth 20000 in
theorem gX11_see_X1_settle : GoodIn wsX11_see (wsV RX11 150 RX1 yX1_settle wsX1_settle) := goodIn_app (goodIn_of _ (by decide +kernel)) ggX11_see_X1_settle
set_option maxRecDepth 20000 in
theorem ggX11_see_X7_gather : GoodIn wsX11_see wsX7_gather := goodIn_r _ [88, 89, 90, 91, 61, 62, 21, 63, 23, 24, 92, 56, 57, 58, 59, 93, 94, 95, 28, 96, 35, 30, 97, 98, 99, 87, 100, 101, 102, 76, 77, 78, 103, 104, 105, 106, 107, 108, 109, 110, 111, 112, 113, 114, 115, 116, 117, 118, 119, 69, 120, 121, 467, 468, 469, 470, 471, 472, 473, 463, 464, 465, 466, 474, 475, 476] rfl (by decide +kernel)
set_option maxRecDepth 20000 in
theorem gX11_see_X7_gather : GoodIn wsX11_see (wsV RX11 153 RX7 yX7_gather wsX7_gather) := goodIn_app (goodIn_of _ (by decide +kernel)) ggX11_see_X7_gather
set_option maxRecDepth 20000 in
theorem ggX11_see_X3_build : GoodIn wsX11_see wsX3_build := goodIn_r _ [126, 127, 128, 129, 130, 131, 132, 133, 134, 135, 136, 125, 137, 138, 16, 139, 140, 32, 33, 34, 141, 142, 143, 87, 144, 108, 110, 145, 146, 147, 148, 107, 90, 91, 61, 62, 21, 63, 23, 24, 92, 56, 57, 58, 59, 149, 113, 114, 115, 150, 151, 152, 153, 154, 155, 156, 157, 158, 159, 89, 479, 480, 481, 482, 483, 484, 485, 486, 487, 488, 467, 468, 469, 470, 471, 472, 473, 463, 464, 465, 466] rfl (by decide +kernel)
set_option maxRecDepth 20000 in
theorem gX11_see_X3_build : GoodIn wsX11_see (wsV RX11 157 RX3 yX3_build wsX3_build) := goodIn_app (goodIn_of _ (by decide +kernel)) ggX11_see_X3_build
set_option maxRecDepth 20000 in
theorem ggX11_see_X6_forget : GoodIn wsX11_see wsX6_forget := goodIn_r _ [164, 165, 166, 167, 168, 169, 170, 171, 172, 173, 489, 490, 491, 492, 493, 494, 495, 496, 497, 498, 499, 500, 501, 502, 503, 504, 505, 506, 507, 508, 509, 510, 511, 512, 513, 514, 515, 516] rfl (by decide +kernel)
set_option maxRecDepth 20000 in
theorem gX11_see_X6_forget : GoodIn wsX11_see (wsV RX11 160 RX6 yX6_forget wsX6_forget) := goodIn_app (goodIn_of _ (by decide +kernel)) ggX11_see_X6_forget
set_option maxRecDepth 20000 in
theorem ggX11_see_X5_holds : GoodIn wsX11_see wsX5_holds := goodIn_r _ [178, 179, 180, 181, 182, 183, 184, 185, 47, 186, 49, 50, 187, 32, 33, 34, 188, 189, 190, 177, 191, 192, 193, 194, 195, 163, 196, 197, 198, 199, 200, 201, 165, 202, 203, 204, 205, 206, 207, 208, 209, 210, 211, 212, 213, 214, 215, 216, 217, 218, 125, 219, 130, 132, 127, 133, 220, 221, 222, 223, 224, 142, 143, 87, 144, 108, 110, 225, 226, 227, 228, 109, 111, 229, 230, 231, 232, 233, 234, 235, 236, 237, 238, 239, 240, 241, 242, 243, 244, 245, 246, 247, 248, 249, 250, 251, 252, 253, 254, 255, 256, 257, 170, 258, 259, 260, 261, 262, 263, 42, 43, 264, 265, 266, 267, 268, 269, 270, 271, 272, 172, 273, 274, 275, 173, 276, 277, 278, 279, 280, 281, 282, 283, 284, 285, 286, 287, 288, 289, 290, 291, 292, 293, 294, 295, 296, 297, 298, 299, 300, 301, 302, 303, 304, 305, 306, 307, 308, 309, 310, 311, 312, 313, 314, 315, 316, 317, 318, 319, 320, 321, 322, 323, 324, 325, 326, 327, 328, 329, 330, 331, 332, 333, 334, 335, 336, 337, 338, 339, 340, 341, 342, 343, 344, 345, 346, 347, 348, 349, 350, 351, 352, 353, 354, 355, 356, 357, 358, 359, 360, 361, 362, 363, 364, 365, 366, 367, 368, 369, 370, 371, 372, 373, 374, 375, 376, 377, 378, 379, 380, 381, 382, 383, 384, 16, 385, 386, 387, 388, 389, 390, 391, 392, 393, 394, 395, 396, 397, 398, 399, 400, 401, 402, 403, 45, 46, 48, 404, 405, 406, 407, 408, 409, 410, 411, 412, 413, 414, 415, 416, 417, 418, 419, 420, 421, 422, 423, 424, 517, 518, 519, 520, 467, 468, 469, 470, 471, 472, 473, 477, 478, 489, 490, 491, 492, 493, 494, 495, 496, 497, 498, 499, 500, 501, 502, 503, 504, 505, 506, 507, 508, 509, 479, 480, 481, 482, 483, 484, 485, 486, 487, 488, 463, 464, 465, 466, 510, 511, 512, 513, 514, 515, 516] rfl (by decide +kernel)
set_option maxRecDepth 20000 in
theorem gX11_see_X5_holds : GoodIn wsX11_see (wsV RX11 161 RX5 yX5_holds wsX5_holds) := goodIn_app (goodIn_of _ (by decide +kernel)) ggX11_see_X5_holds
set_option maxRecDepth 20000 in
theorem ggX11_see_X3_tally : GoodIn wsX11_see wsX3_tally := goodIn_r _ [428, 429, 127, 430, 431, 432, 433, 434, 125, 435, 436, 437, 438, 439, 130, 132, 440, 217, 218, 219, 133, 441, 442, 443, 444, 445, 479, 480, 481, 482, 483, 484, 485, 486, 487, 488, 463, 464, 465, 466] rfl (by decide +kernel)
set_option maxRecDepth 20000 in
theorem gX11_see_X3_tally : GoodIn wsX11_see (wsV RX11 169 RX3 yX3_tally wsX3_tally) := goodIn_app (goodIn_of _ (by decide +kernel)) ggX11_see_X3_tally
theorem dX11_see_0 : decode cX11_see 0 = .ok (.iload_n 1, 1) := by decide +kernel
theorem dX11_see_1 : decode cX11_see 1 = .ok (.iconst 1, 1) := by decide +kernel
theorem dX11_see_2 : decode cX11_see 2 = .ok (.if_icmp .lt 14, 3) := by decide +kernel
theorem dX11_see_5 : decode cX11_see 5 = .ok (.iload_n 1, 1) := by decide +kernel
theorem dX11_see_6 : decode cX11_see 6 = .ok (.aload_n 0, 1) := by decide +kernel
theorem dX11_see_7 : decode cX11_see 7 = .ok (.getfield 14, 3) := by decide +kernel
theorem dX11_see_10 : decode cX11_see 10 = .ok (.getfield 137, 3) := by decide +kernel
theorem dX11_see_13 : decode cX11_see 13 = .ok (.if_icmp .le 6, 3) := by decide +kernel
theorem dX11_see_16 : decode cX11_see 16 = .ok (.bipush (-2), 2) := by decide +kernel
theorem dX11_see_18 : decode cX11_see 18 = .ok (.ireturn, 1) := by decide +kernel
theorem dX11_see_19 : decode cX11_see 19 = .ok (.aload_n 0, 1) := by decide +kernel
theorem dX11_see_20 : decode cX11_see 20 = .ok (.invokevirtual 113, 3) := by decide +kernel
theorem dX11_see_23 : decode cX11_see 23 = .ok (.aload_n 0, 1) := by decide +kernel
theorem dX11_see_24 : decode cX11_see 24 = .ok (.getfield 35, 3) := by decide +kernel
theorem dX11_see_27 : decode cX11_see 27 = .ok (.aload_n 0, 1) := by decide +kernel
theorem dX11_see_28 : decode cX11_see 28 = .ok (.getfield 14, 3) := by decide +kernel
theorem dX11_see_31 : decode cX11_see 31 = .ok (.iload_n 1, 1) := by decide +kernel
theorem dX11_see_32 : decode cX11_see 32 = .ok (.invokevirtual 140, 3) := by decide +kernel
theorem dX11_see_35 : decode cX11_see 35 = .ok (.invokevirtual 143, 3) := by decide +kernel
theorem dX11_see_38 : decode cX11_see 38 = .ok (.iconst 0, 1) := by decide +kernel
theorem dX11_see_39 : decode cX11_see 39 = .ok (.istore_n 2, 1) := by decide +kernel
theorem dX11_see_40 : decode cX11_see 40 = .ok (.iload_n 2, 1) := by decide +kernel
theorem dX11_see_41 : decode cX11_see 41 = .ok (.aload_n 0, 1) := by decide +kernel
theorem dX11_see_42 : decode cX11_see 42 = .ok (.getfield 110, 3) := by decide +kernel
theorem dX11_see_45 : decode cX11_see 45 = .ok (.if_icmp .ge 39, 3) := by decide +kernel
theorem dX11_see_48 : decode cX11_see 48 = .ok (.aload_n 0, 1) := by decide +kernel
theorem dX11_see_49 : decode cX11_see 49 = .ok (.getfield 35, 3) := by decide +kernel
theorem dX11_see_52 : decode cX11_see 52 = .ok (.aload_n 0, 1) := by decide +kernel
theorem dX11_see_53 : decode cX11_see 53 = .ok (.getfield 29, 3) := by decide +kernel
theorem dX11_see_56 : decode cX11_see 56 = .ok (.iconst 2, 1) := by decide +kernel
theorem dX11_see_57 : decode cX11_see 57 = .ok (.iload_n 2, 1) := by decide +kernel
theorem dX11_see_58 : decode cX11_see 58 = .ok (.imul, 1) := by decide +kernel
theorem dX11_see_59 : decode cX11_see 59 = .ok (.aaload, 1) := by decide +kernel
theorem dX11_see_60 : decode cX11_see 60 = .ok (.aload_n 0, 1) := by decide +kernel
theorem dX11_see_61 : decode cX11_see 61 = .ok (.getfield 29, 3) := by decide +kernel
theorem dX11_see_64 : decode cX11_see 64 = .ok (.iconst 2, 1) := by decide +kernel
theorem dX11_see_65 : decode cX11_see 65 = .ok (.iload_n 2, 1) := by decide +kernel
theorem dX11_see_66 : decode cX11_see 66 = .ok (.imul, 1) := by decide +kernel
theorem dX11_see_67 : decode cX11_see 67 = .ok (.iconst 1, 1) := by decide +kernel
theorem dX11_see_68 : decode cX11_see 68 = .ok (.iadd, 1) := by decide +kernel
theorem dX11_see_69 : decode cX11_see 69 = .ok (.aaload, 1) := by decide +kernel
theorem dX11_see_70 : decode cX11_see 70 = .ok (.aload_n 0, 1) := by decide +kernel
theorem dX11_see_71 : decode cX11_see 71 = .ok (.getfield 14, 3) := by decide +kernel
theorem dX11_see_74 : decode cX11_see 74 = .ok (.iload_n 1, 1) := by decide +kernel
theorem dX11_see_75 : decode cX11_see 75 = .ok (.invokevirtual 146, 3) := by decide +kernel
theorem dX11_see_78 : decode cX11_see 78 = .ok (.iinc 2 1, 3) := by decide +kernel
theorem dX11_see_81 : decode cX11_see 81 = .ok (.goto (-41), 3) := by decide +kernel
theorem dX11_see_84 : decode cX11_see 84 = .ok (.aload_n 0, 1) := by decide +kernel
theorem dX11_see_85 : decode cX11_see 85 = .ok (.getfield 35, 3) := by decide +kernel
theorem dX11_see_88 : decode cX11_see 88 = .ok (.invokevirtual 150, 3) := by decide +kernel
theorem dX11_see_91 : decode cX11_see 91 = .ok (.aload_n 0, 1) := by decide +kernel
theorem dX11_see_92 : decode cX11_see 92 = .ok (.getfield 44, 3) := by decide +kernel
theorem dX11_see_95 : decode cX11_see 95 = .ok (.aload_n 0, 1) := by decide +kernel
theorem dX11_see_96 : decode cX11_see 96 = .ok (.getfield 35, 3) := by decide +kernel
theorem dX11_see_99 : decode cX11_see 99 = .ok (.iload_n 1, 1) := by decide +kernel
theorem dX11_see_100 : decode cX11_see 100 = .ok (.invokevirtual 153, 3) := by decide +kernel
theorem dX11_see_103 : decode cX11_see 103 = .ok (.ifCond .ne 6, 3) := by decide +kernel
theorem dX11_see_106 : decode cX11_see 106 = .ok (.bipush (-4), 2) := by decide +kernel
theorem dX11_see_108 : decode cX11_see 108 = .ok (.ireturn, 1) := by decide +kernel
theorem dX11_see_109 : decode cX11_see 109 = .ok (.aload_n 0, 1) := by decide +kernel
theorem dX11_see_110 : decode cX11_see 110 = .ok (.getfield 53, 3) := by decide +kernel
theorem dX11_see_113 : decode cX11_see 113 = .ok (.invokevirtual 157, 3) := by decide +kernel
theorem dX11_see_116 : decode cX11_see 116 = .ok (.aload_n 0, 1) := by decide +kernel
theorem dX11_see_117 : decode cX11_see 117 = .ok (.getfield 62, 3) := by decide +kernel
theorem dX11_see_120 : decode cX11_see 120 = .ok (.invokevirtual 160, 3) := by decide +kernel
theorem dX11_see_123 : decode cX11_see 123 = .ok (.aload_n 0, 1) := by decide +kernel
theorem dX11_see_124 : decode cX11_see 124 = .ok (.aload_n 0, 1) := by decide +kernel
theorem dX11_see_125 : decode cX11_see 125 = .ok (.getfield 80, 3) := by decide +kernel
theorem dX11_see_128 : decode cX11_see 128 = .ok (.aload_n 0, 1) := by decide +kernel
theorem dX11_see_129 : decode cX11_see 129 = .ok (.getfield 29, 3) := by decide +kernel
theorem dX11_see_132 : decode cX11_see 132 = .ok (.aload_n 0, 1) := by decide +kernel
theorem dX11_see_133 : decode cX11_see 133 = .ok (.getfield 110, 3) := by decide +kernel
theorem dX11_see_136 : decode cX11_see 136 = .ok (.invokevirtual 161, 3) := by decide +kernel
theorem dX11_see_139 : decode cX11_see 139 = .ok (.putfield 165, 3) := by decide +kernel
theorem dX11_see_142 : decode cX11_see 142 = .ok (.aload_n 0, 1) := by decide +kernel
theorem dX11_see_143 : decode cX11_see 143 = .ok (.getfield 165, 3) := by decide +kernel
theorem dX11_see_146 : decode cX11_see 146 = .ok (.ifCond .eq 10, 3) := by decide +kernel
theorem dX11_see_149 : decode cX11_see 149 = .ok (.aload_n 0, 1) := by decide +kernel
theorem dX11_see_150 : decode cX11_see 150 = .ok (.getfield 53, 3) := by decide +kernel
theorem dX11_see_153 : decode cX11_see 153 = .ok (.invokevirtual 169, 3) := by decide +kernel
theorem dX11_see_156 : decode cX11_see 156 = .ok (.aload_n 0, 1) := by decide +kernel
theorem dX11_see_157 : decode cX11_see 157 = .ok (.iload_n 1, 1) := by decide +kernel
theorem dX11_see_158 : decode cX11_see 158 = .ok (.putfield 172, 3) := by decide +kernel
theorem dX11_see_161 : decode cX11_see 161 = .ok (.aload_n 0, 1) := by decide +kernel
theorem dX11_see_162 : decode cX11_see 162 = .ok (.getfield 44, 3) := by decide +kernel
theorem dX11_see_165 : decode cX11_see 165 = .ok (.getfield 175, 3) := by decide +kernel
theorem dX11_see_168 : decode cX11_see 168 = .ok (.ireturn, 1) := by decide +kernel
set_option maxRecDepth 20000 in
theorem ggX11_seen_X11_isSeen : GoodIn wsX11_seen wsX11_isSeen := goodIn_r _ [6, 1, 7, 8, 9, 10, 11, 12, 13, 14, 15, 16, 17, 18, 19, 20, 21, 22, 23] (by decide +kernel) (by decide +kernel)
set_option maxRecDepth 20000 in
theorem gX11_seen_X11_isSeen : GoodIn wsX11_seen (wsV RX11 178 RX11 yX11_isSeen wsX11_isSeen) := goodIn_app (goodIn_of _ (by decide +kernel)) ggX11_seen_X11_isSeen
theorem dX11_seen_0 : decode cX11_seen 0 = .ok (.aload_n 0, 1) := by decide +kernel
theorem dX11_seen_1 : decode cX11_seen 1 = .ok (.invokevirtual 178, 3) := by decide +kernel
theorem dX11_seen_4 : decode cX11_seen 4 = .ok (.ifCond .eq 10, 3) := by decide +kernel
theorem dX11_seen_7 : decode cX11_seen 7 = .ok (.aload_n 0, 1) := by decide +kernel
theorem dX11_seen_8 : decode cX11_seen 8 = .ok (.getfield 172, 3) := by decide +kernel
theorem dX11_seen_11 : decode cX11_seen 11 = .ok (.goto 5, 3) := by decide +kernel
theorem dX11_seen_14 : decode cX11_seen 14 = .ok (.bipush (-9), 2) := by decide +kernel
theorem dX11_seen_16 : decode cX11_seen 16 = .ok (.ireturn, 1) := by decide +kernel
set_option maxRecDepth 20000 in
theorem ggX11_size_X11_isProved : GoodIn wsX11_size wsX11_isProved := goodIn_r _ [11, 12, 13, 14, 15, 10, 16, 17, 24, 25, 26, 27, 28, 29, 30, 31, 32, 33, 34, 35, 36, 37, 38, 39, 40] (by decide +kernel) (by decide +kernel)
set_option maxRecDepth 20000 in
theorem gX11_size_X11_isProved : GoodIn wsX11_size (wsV RX11 204 RX11 yX11_isProved wsX11_isProved) := goodIn_app (goodIn_of _ (by decide +kernel)) ggX11_size_X11_isProved
set_option maxRecDepth 20000 in
theorem ggX11_size_X3_countBelow : GoodIn wsX11_size wsX3_countBelow := goodIn_r _ [22, 23, 41, 42, 43, 44, 45, 46, 47, 48, 49, 50] (by decide +kernel) (by decide +kernel)
set_option maxRecDepth 20000 in
theorem gX11_size_X3_countBelow : GoodIn wsX11_size (wsV RX11 228 RX3 yX3_countBelow wsX3_countBelow) := goodIn_app (goodIn_of _ (by decide +kernel)) ggX11_size_X3_countBelow
theorem dX11_size_0 : decode cX11_size 0 = .ok (.aload_n 0, 1) := by decide +kernel
theorem dX11_size_1 : decode cX11_size 1 = .ok (.invokevirtual 204, 3) := by decide +kernel
theorem dX11_size_4 : decode cX11_size 4 = .ok (.ifCond .ne 7, 3) := by decide +kernel
theorem dX11_size_7 : decode cX11_size 7 = .ok (.ldc2_w 219, 3) := by decide +kernel
theorem dX11_size_10 : decode cX11_size 10 = .ok (.lreturn, 1) := by decide +kernel
theorem dX11_size_11 : decode cX11_size 11 = .ok (.aload_n 0, 1) := by decide +kernel
theorem dX11_size_12 : decode cX11_size 12 = .ok (.getfield 53, 3) := by decide +kernel
theorem dX11_size_15 : decode cX11_size 15 = .ok (.getfield 221, 3) := by decide +kernel
theorem dX11_size_18 : decode cX11_size 18 = .ok (.ifCond .eq 7, 3) := by decide +kernel
theorem dX11_size_21 : decode cX11_size 21 = .ok (.ldc2_w 224, 3) := by decide +kernel
theorem dX11_size_24 : decode cX11_size 24 = .ok (.lreturn, 1) := by decide +kernel
theorem dX11_size_25 : decode cX11_size 25 = .ok (.aload_n 0, 1) := by decide +kernel
theorem dX11_size_26 : decode cX11_size 26 = .ok (.getfield 53, 3) := by decide +kernel
theorem dX11_size_29 : decode cX11_size 29 = .ok (.getfield 215, 3) := by decide +kernel
theorem dX11_size_32 : decode cX11_size 32 = .ok (.bipush 31, 2) := by decide +kernel
theorem dX11_size_34 : decode cX11_size 34 = .ok (.laload, 1) := by decide +kernel
theorem dX11_size_35 : decode cX11_size 35 = .ok (.lconst 0, 1) := by decide +kernel
theorem dX11_size_36 : decode cX11_size 36 = .ok (.lcmp, 1) := by decide +kernel
theorem dX11_size_37 : decode cX11_size 37 = .ok (.ifCond .le 9, 3) := by decide +kernel
theorem dX11_size_40 : decode cX11_size 40 = .ok (.ldc2_w 226, 3) := by decide +kernel
theorem dX11_size_43 : decode cX11_size 43 = .ok (.goto 12, 3) := by decide +kernel
theorem dX11_size_46 : decode cX11_size 46 = .ok (.aload_n 0, 1) := by decide +kernel
theorem dX11_size_47 : decode cX11_size 47 = .ok (.getfield 53, 3) := by decide +kernel
theorem dX11_size_50 : decode cX11_size 50 = .ok (.bipush 31, 2) := by decide +kernel
theorem dX11_size_52 : decode cX11_size 52 = .ok (.invokevirtual 228, 3) := by decide +kernel
theorem dX11_size_55 : decode cX11_size 55 = .ok (.lreturn, 1) := by decide +kernel
set_option maxRecDepth 20000 in
theorem ggX11_slot_X11_isSlot : GoodIn wsX11_slot wsX11_isSlot := goodIn_r _ [8] (by decide +kernel) (by decide +kernel)
set_option maxRecDepth 20000 in
theorem gX11_slot_X11_isSlot : GoodIn wsX11_slot (wsV RX11 126 RX11 yX11_isSlot wsX11_isSlot) := goodIn_app (goodIn_of _ (by decide +kernel)) ggX11_slot_X11_isSlot
set_option maxRecDepth 20000 in
theorem ggX11_slot_X10_take : GoodIn wsX11_slot wsX10_take := goodIn_r _ [13, 14, 15, 16, 17, 18, 19, 41, 42] (by decide +kernel) (by decide +kernel)
set_option maxRecDepth 20000 in
theorem gX11_slot_X10_take : GoodIn wsX11_slot (wsV RX11 129 RX10 yX10_take wsX10_take) := goodIn_app (goodIn_of _ (by decide +kernel)) ggX11_slot_X10_take
set_option maxRecDepth 20000 in
theorem ggX11_slot_X10_wipe : GoodIn wsX11_slot wsX10_wipe := goodIn_r _ [23, 14, 41, 42] (by decide +kernel) (by decide +kernel)
set_option maxRecDepth 20000 in
theorem gX11_slot_X10_wipe : GoodIn wsX11_slot (wsV RX11 107 RX10 yX10_wipe wsX10_wipe) := goodIn_app (goodIn_of _ (by decide +kernel)) ggX11_slot_X10_wipe
theorem dX11_slot_0 : decode cX11_slot 0 = .ok (.aload_n 0, 1) := by decide +kernel
theorem dX11_slot_1 : decode cX11_slot 1 = .ok (.iload_n 1, 1) := by decide +kernel
theorem dX11_slot_2 : decode cX11_slot 2 = .ok (.invokevirtual 126, 3) := by decide +kernel
theorem dX11_slot_5 : decode cX11_slot 5 = .ok (.ifCond .ne 5, 3) := by decide +kernel
theorem dX11_slot_8 : decode cX11_slot 8 = .ok (.iconst (-1), 1) := by decide +kernel
theorem dX11_slot_9 : decode cX11_slot 9 = .ok (.ireturn, 1) := by decide +kernel
theorem dX11_slot_10 : decode cX11_slot 10 = .ok (.aload_n 0, 1) := by decide +kernel
theorem dX11_slot_11 : decode cX11_slot 11 = .ok (.getfield 25, 3) := by decide +kernel
theorem dX11_slot_14 : decode cX11_slot 14 = .ok (.iload_n 1, 1) := by decide +kernel
theorem dX11_slot_15 : decode cX11_slot 15 = .ok (.aaload, 1) := by decide +kernel
theorem dX11_slot_16 : decode cX11_slot 16 = .ok (.aload_n 0, 1) := by decide +kernel
theorem dX11_slot_17 : decode cX11_slot 17 = .ok (.getfield 21, 3) := by decide +kernel
theorem dX11_slot_20 : decode cX11_slot 20 = .ok (.invokevirtual 129, 3) := by decide +kernel
theorem dX11_slot_23 : decode cX11_slot 23 = .ok (.aload_n 0, 1) := by decide +kernel
theorem dX11_slot_24 : decode cX11_slot 24 = .ok (.getfield 21, 3) := by decide +kernel
theorem dX11_slot_27 : decode cX11_slot 27 = .ok (.invokevirtual 107, 3) := by decide +kernel
theorem dX11_slot_30 : decode cX11_slot 30 = .ok (.aload_n 0, 1) := by decide +kernel
theorem dX11_slot_31 : decode cX11_slot 31 = .ok (.getfield 25, 3) := by decide +kernel
theorem dX11_slot_34 : decode cX11_slot 34 = .ok (.iload_n 1, 1) := by decide +kernel
theorem dX11_slot_35 : decode cX11_slot 35 = .ok (.aaload, 1) := by decide +kernel
theorem dX11_slot_36 : decode cX11_slot 36 = .ok (.getfield 123, 3) := by decide +kernel
theorem dX11_slot_39 : decode cX11_slot 39 = .ok (.ireturn, 1) := by decide +kernel
set_option maxRecDepth 20000 in
theorem ggX11_states_X11_isProved : GoodIn wsX11_states wsX11_isProved := goodIn_r _ [7, 8, 9, 10, 11, 6, 12, 13, 14, 15, 16, 17, 18, 19, 20, 21, 22, 23, 24, 25, 26, 27, 28, 29, 30] (by decide +kernel) (by decide +kernel)
set_option maxRecDepth 20000 in
theorem gX11_states_X11_isProved : GoodIn wsX11_states (wsV RX11 204 RX11 yX11_isProved wsX11_isProved) := goodIn_app (goodIn_of _ (by decide +kernel)) ggX11_states_X11_isProved
theorem dX11_states_0 : decode cX11_states 0 = .ok (.aload_n 0, 1) := by decide +kernel
theorem dX11_states_1 : decode cX11_states 1 = .ok (.invokevirtual 204, 3) := by decide +kernel
theorem dX11_states_4 : decode cX11_states 4 = .ok (.ifCond .eq 13, 3) := by decide +kernel
theorem dX11_states_7 : decode cX11_states 7 = .ok (.aload_n 0, 1) := by decide +kernel
theorem dX11_states_8 : decode cX11_states 8 = .ok (.getfield 53, 3) := by decide +kernel
theorem dX11_states_11 : decode cX11_states 11 = .ok (.getfield 207, 3) := by decide +kernel
theorem dX11_states_14 : decode cX11_states 14 = .ok (.goto 5, 3) := by decide +kernel
theorem dX11_states_17 : decode cX11_states 17 = .ok (.bipush (-3), 2) := by decide +kernel
theorem dX11_states_19 : decode cX11_states 19 = .ok (.ireturn, 1) := by decide +kernel
set_option maxRecDepth 20000 in
theorem ggX11_total_X11_isSeen : GoodIn wsX11_total wsX11_isSeen := goodIn_r _ [12, 13, 14, 15, 16, 17, 18, 19, 20, 21, 22, 23, 24, 25, 26, 27, 28, 29, 30] (by decide +kernel) (by decide +kernel)
set_option maxRecDepth 20000 in
theorem gX11_total_X11_isSeen : GoodIn wsX11_total (wsV RX11 178 RX11 yX11_isSeen wsX11_isSeen) := goodIn_app (goodIn_of _ (by decide +kernel)) ggX11_total_X11_isSeen
theorem dX11_total_0 : decode cX11_total 0 = .ok (.iload_n 1, 1) := by decide +kernel
theorem dX11_total_1 : decode cX11_total 1 = .ok (.tableswitch 71 0 3 #[31, 39, 44, 63], 31) := by decide +kernel
theorem dX11_total_32 : decode cX11_total 32 = .ok (.aload_n 0, 1) := by decide +kernel
theorem dX11_total_33 : decode cX11_total 33 = .ok (.getfield 14, 3) := by decide +kernel
theorem dX11_total_36 : decode cX11_total 36 = .ok (.getfield 100, 3) := by decide +kernel
theorem dX11_total_39 : decode cX11_total 39 = .ok (.ireturn, 1) := by decide +kernel
theorem dX11_total_40 : decode cX11_total 40 = .ok (.aload_n 0, 1) := by decide +kernel
theorem dX11_total_41 : decode cX11_total 41 = .ok (.getfield 110, 3) := by decide +kernel
theorem dX11_total_44 : decode cX11_total 44 = .ok (.ireturn, 1) := by decide +kernel
theorem dX11_total_45 : decode cX11_total 45 = .ok (.aload_n 0, 1) := by decide +kernel
theorem dX11_total_46 : decode cX11_total 46 = .ok (.invokevirtual 178, 3) := by decide +kernel
theorem dX11_total_49 : decode cX11_total 49 = .ok (.ifCond .eq 13, 3) := by decide +kernel
theorem dX11_total_52 : decode cX11_total 52 = .ok (.aload_n 0, 1) := by decide +kernel
theorem dX11_total_53 : decode cX11_total 53 = .ok (.getfield 44, 3) := by decide +kernel
theorem dX11_total_56 : decode cX11_total 56 = .ok (.getfield 175, 3) := by decide +kernel
theorem dX11_total_59 : decode cX11_total 59 = .ok (.goto 4, 3) := by decide +kernel
theorem dX11_total_62 : decode cX11_total 62 = .ok (.iconst 0, 1) := by decide +kernel
theorem dX11_total_63 : decode cX11_total 63 = .ok (.ireturn, 1) := by decide +kernel
theorem dX11_total_64 : decode cX11_total 64 = .ok (.aload_n 0, 1) := by decide +kernel
theorem dX11_total_65 : decode cX11_total 65 = .ok (.getfield 21, 3) := by decide +kernel
theorem dX11_total_68 : decode cX11_total 68 = .ok (.getfield 123, 3) := by decide +kernel
theorem dX11_total_71 : decode cX11_total 71 = .ok (.ireturn, 1) := by decide +kernel
theorem dX11_total_72 : decode cX11_total 72 = .ok (.bipush (-2), 2) := by decide +kernel
theorem dX11_total_74 : decode cX11_total 74 = .ok (.ireturn, 1) := by decide +kernel
theorem dX12_append_0 : decode cX12_append 0 = .ok (.iconst 0, 1) := by decide +kernel
theorem dX12_append_1 : decode cX12_append 1 = .ok (.istore_n 3, 1) := by decide +kernel
theorem dX12_append_2 : decode cX12_append 2 = .ok (.iload_n 3, 1) := by decide +kernel
theorem dX12_append_3 : decode cX12_append 3 = .ok (.aload_n 0, 1) := by decide +kernel
theorem dX12_append_4 : decode cX12_append 4 = .ok (.getfield 13, 3) := by decide +kernel
theorem dX12_append_7 : decode cX12_append 7 = .ok (.iload_n 2, 1) := by decide +kernel
theorem dX12_append_8 : decode cX12_append 8 = .ok (.iaload, 1) := by decide +kernel
theorem dX12_append_9 : decode cX12_append 9 = .ok (.if_icmp .ge 40, 3) := by decide +kernel
theorem dX12_append_12 : decode cX12_append 12 = .ok (.aload_n 0, 1) := by decide +kernel
theorem dX12_append_13 : decode cX12_append 13 = .ok (.getfield 17, 3) := by decide +kernel
theorem dX12_append_16 : decode cX12_append 16 = .ok (.sipush 128, 3) := by decide +kernel
theorem dX12_append_19 : decode cX12_append 19 = .ok (.iload_n 1, 1) := by decide +kernel
theorem dX12_append_20 : decode cX12_append 20 = .ok (.imul, 1) := by decide +kernel
theorem dX12_append_21 : decode cX12_append 21 = .ok (.aload_n 0, 1) := by decide +kernel
theorem dX12_append_22 : decode cX12_append 22 = .ok (.getfield 13, 3) := by decide +kernel
theorem dX12_append_25 : decode cX12_append 25 = .ok (.iload_n 1, 1) := by decide +kernel
theorem dX12_append_26 : decode cX12_append 26 = .ok (.iaload, 1) := by decide +kernel
theorem dX12_append_27 : decode cX12_append 27 = .ok (.iadd, 1) := by decide +kernel
theorem dX12_append_28 : decode cX12_append 28 = .ok (.iload_n 3, 1) := by decide +kernel
theorem dX12_append_29 : decode cX12_append 29 = .ok (.iadd, 1) := by decide +kernel
theorem dX12_append_30 : decode cX12_append 30 = .ok (.aload_n 0, 1) := by decide +kernel
theorem dX12_append_31 : decode cX12_append 31 = .ok (.getfield 17, 3) := by decide +kernel
theorem dX12_append_34 : decode cX12_append 34 = .ok (.sipush 128, 3) := by decide +kernel
theorem dX12_append_37 : decode cX12_append 37 = .ok (.iload_n 2, 1) := by decide +kernel
theorem dX12_append_38 : decode cX12_append 38 = .ok (.imul, 1) := by decide +kernel
theorem dX12_append_39 : decode cX12_append 39 = .ok (.iload_n 3, 1) := by decide +kernel
theorem dX12_append_40 : decode cX12_append 40 = .ok (.iadd, 1) := by decide +kernel
theorem dX12_append_41 : decode cX12_append 41 = .ok (.iaload, 1) := by decide +kernel
theorem dX12_append_42 : decode cX12_append 42 = .ok (.iastore, 1) := by decide +kernel
theorem dX12_append_43 : decode cX12_append 43 = .ok (.iinc 3 1, 3) := by decide +kernel
theorem dX12_append_46 : decode cX12_append 46 = .ok (.goto (-44), 3) := by decide +kernel
theorem dX12_append_49 : decode cX12_append 49 = .ok (.aload_n 0, 1) := by decide +kernel
theorem dX12_append_50 : decode cX12_append 50 = .ok (.getfield 13, 3) := by decide +kernel
theorem dX12_append_53 : decode cX12_append 53 = .ok (.iload_n 1, 1) := by decide +kernel
theorem dX12_append_54 : decode cX12_append 54 = .ok (.dup2, 1) := by decide +kernel
theorem dX12_append_55 : decode cX12_append 55 = .ok (.iaload, 1) := by decide +kernel
theorem dX12_append_56 : decode cX12_append 56 = .ok (.aload_n 0, 1) := by decide +kernel
theorem dX12_append_57 : decode cX12_append 57 = .ok (.getfield 13, 3) := by decide +kernel
theorem dX12_append_60 : decode cX12_append 60 = .ok (.iload_n 2, 1) := by decide +kernel
theorem dX12_append_61 : decode cX12_append 61 = .ok (.iaload, 1) := by decide +kernel
theorem dX12_append_62 : decode cX12_append 62 = .ok (.iadd, 1) := by decide +kernel
theorem dX12_append_63 : decode cX12_append 63 = .ok (.iastore, 1) := by decide +kernel
theorem dX12_append_64 : decode cX12_append 64 = .ok (.return_, 1) := by decide +kernel
set_option maxRecDepth 20000 in
theorem ggX12_at_X12_isSlot : GoodIn wsX12_at wsX12_isSlot := goodIn_r _ [6, 7, 8, 9, 5, 10] (by decide +kernel) (by decide +kernel)
set_option maxRecDepth 20000 in
theorem gX12_at_X12_isSlot : GoodIn wsX12_at (va_wsS RX12 102 yX12_isSlot wsX12_isSlot) := goodIn_app (goodIn_of _ (by decide +kernel)) ggX12_at_X12_isSlot
set_option maxRecDepth 20000 in
theorem ggX12_at_X12_in : GoodIn wsX12_at wsX12_in := goodIn_r _ [10] (by decide +kernel) (by decide +kernel)
set_option maxRecDepth 20000 in
theorem gX12_at_X12_in : GoodIn wsX12_at (va_wsS RX12 93 yX12_in wsX12_in) := goodIn_app (goodIn_of _ (by decide +kernel)) ggX12_at_X12_in
theorem dX12_at_0 : decode cX12_at 0 = .ok (.iload_n 1, 1) := by decide +kernel
theorem dX12_at_1 : decode cX12_at 1 = .ok (.invokestatic 102, 3) := by decide +kernel
theorem dX12_at_4 : decode cX12_at 4 = .ok (.ifCond .ne 5, 3) := by decide +kernel
theorem dX12_at_7 : decode cX12_at 7 = .ok (.iconst (-1), 1) := by decide +kernel
theorem dX12_at_8 : decode cX12_at 8 = .ok (.ireturn, 1) := by decide +kernel
theorem dX12_at_9 : decode cX12_at 9 = .ok (.iload_n 2, 1) := by decide +kernel
theorem dX12_at_10 : decode cX12_at 10 = .ok (.i2l, 1) := by decide +kernel
theorem dX12_at_11 : decode cX12_at 11 = .ok (.lconst 0, 1) := by decide +kernel
theorem dX12_at_12 : decode cX12_at 12 = .ok (.aload_n 0, 1) := by decide +kernel
theorem dX12_at_13 : decode cX12_at 13 = .ok (.getfield 13, 3) := by decide +kernel
theorem dX12_at_16 : decode cX12_at 16 = .ok (.iload_n 1, 1) := by decide +kernel
theorem dX12_at_17 : decode cX12_at 17 = .ok (.iaload, 1) := by decide +kernel
theorem dX12_at_18 : decode cX12_at 18 = .ok (.iconst 1, 1) := by decide +kernel
theorem dX12_at_19 : decode cX12_at 19 = .ok (.isub, 1) := by decide +kernel
theorem dX12_at_20 : decode cX12_at 20 = .ok (.i2l, 1) := by decide +kernel
theorem dX12_at_21 : decode cX12_at 21 = .ok (.invokestatic 93, 3) := by decide +kernel
theorem dX12_at_24 : decode cX12_at 24 = .ok (.ifCond .eq 18, 3) := by decide +kernel
theorem dX12_at_27 : decode cX12_at 27 = .ok (.aload_n 0, 1) := by decide +kernel
theorem dX12_at_28 : decode cX12_at 28 = .ok (.getfield 17, 3) := by decide +kernel
theorem dX12_at_31 : decode cX12_at 31 = .ok (.sipush 128, 3) := by decide +kernel
theorem dX12_at_34 : decode cX12_at 34 = .ok (.iload_n 1, 1) := by decide +kernel
theorem dX12_at_35 : decode cX12_at 35 = .ok (.imul, 1) := by decide +kernel
theorem dX12_at_36 : decode cX12_at 36 = .ok (.iload_n 2, 1) := by decide +kernel
theorem dX12_at_37 : decode cX12_at 37 = .ok (.iadd, 1) := by decide +kernel
theorem dX12_at_38 : decode cX12_at 38 = .ok (.iaload, 1) := by decide +kernel
theorem dX12_at_39 : decode cX12_at 39 = .ok (.goto 5, 3) := by decide +kernel
theorem dX12_at_42 : decode cX12_at 42 = .ok (.bipush (-9), 2) := by decide +kernel
theorem dX12_at_44 : decode cX12_at 44 = .ok (.ireturn, 1) := by decide +kernel
