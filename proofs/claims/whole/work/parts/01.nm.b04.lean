set_option maxRecDepth 20000 in
theorem ggX11_makes_X11_isSlot : GoodIn wsX11_makes wsX11_isSlot := goodIn_r _ [11] (by decide +kernel) (by decide +kernel)
set_option maxRecDepth 20000 in
theorem gX11_makes_X11_isSlot : GoodIn wsX11_makes (wsV RX11 126 RX11 yX11_isSlot wsX11_isSlot) := goodIn_app (goodIn_of _ (by decide +kernel)) ggX11_makes_X11_isSlot
set_option maxRecDepth 20000 in
theorem ggX11_makes_X11_isProved : GoodIn wsX11_makes wsX11_isProved := goodIn_r _ [15, 16, 17, 18, 19, 10, 20, 21, 292, 293, 294, 295, 296, 297, 298, 299, 300, 301, 302, 303, 304, 305, 306, 307, 308] (by decide +kernel) (by decide +kernel)
set_option maxRecDepth 20000 in
theorem gX11_makes_X11_isProved : GoodIn wsX11_makes (wsV RX11 204 RX11 yX11_isProved wsX11_isProved) := goodIn_app (goodIn_of _ (by decide +kernel)) ggX11_makes_X11_isProved
set_option maxRecDepth 20000 in
theorem ggX11_makes_X6_run : GoodIn wsX11_makes wsX6_run := goodIn_r _ [26, 27, 28, 29, 30, 31, 32, 33, 34, 35, 36, 37, 38, 39, 40, 41, 42, 43, 44, 45, 46, 47, 48, 49, 25, 50, 51, 52, 53, 54, 55, 56, 57, 58, 59, 60, 61, 62, 63, 64, 65, 66, 67, 68, 69, 70, 71, 72, 73, 74, 75, 76, 77, 78, 79, 80, 81, 82, 83, 84, 85, 86, 87, 88, 89, 90, 91, 92, 93, 94, 95, 96, 97, 98, 99, 100, 101, 102, 103, 104, 105, 106, 107, 108, 109, 110, 111, 112, 113, 114, 115, 116, 117, 118, 119, 120, 121, 122, 123, 124, 125, 126, 127, 128, 129, 130, 131, 132, 133, 134, 135, 136, 137, 138, 139, 140, 141, 142, 143, 144, 145, 146, 147, 148, 149, 150, 151, 152, 153, 154, 155, 156, 157, 158, 159, 160, 161, 162, 163, 164, 165, 166, 167, 168, 169, 170, 171, 172, 173, 174, 175, 176, 177, 178, 179, 180, 181, 182, 183, 184, 185, 186, 187, 188, 189, 190, 191, 192, 193, 194, 195, 196, 197, 198, 199, 200, 201, 202, 203, 204, 205, 206, 207, 208, 209, 210, 211, 212, 213, 214, 215, 216, 217, 218, 219, 220, 221, 222, 223, 224, 225, 226, 227, 228, 229, 230, 231, 232, 233, 234, 235, 236, 237, 238, 239, 240, 241, 242, 243, 10, 244, 245, 246, 247, 248, 249, 250, 251, 252, 253, 254, 255, 256, 257, 258, 259, 260, 261, 312, 313, 314, 315, 316, 317, 318, 319, 320, 321, 322, 323, 324, 325, 326, 327, 328, 329, 330, 331, 332, 333, 334, 335, 336, 337, 338, 339, 340, 341, 342, 343, 344, 345, 346, 347, 348, 349, 350, 351, 352, 353, 354, 355, 356, 357, 358, 359, 360, 361, 362] rfl (by decide +kernel)
set_option maxRecDepth 20000 in
theorem gX11_makes_X6_run : GoodIn wsX11_makes (wsV RX11 238 RX6 yX6_run wsX6_run) := goodIn_app (goodIn_of _ (by decide +kernel)) ggX11_makes_X6_run
set_option maxRecDepth 20000 in
theorem ggX11_makes_X4_begin : GoodIn wsX11_makes wsX4_begin := goodIn_r _ [266, 267, 268, 269, 309, 310, 311] (by decide +kernel) (by decide +kernel)
set_option maxRecDepth 20000 in
theorem gX11_makes_X4_begin : GoodIn wsX11_makes (wsV RX11 257 RX4 yX4_begin wsX4_begin) := goodIn_app (goodIn_of _ (by decide +kernel)) ggX11_makes_X4_begin
set_option maxRecDepth 20000 in
theorem ggX11_makes_X11_makeFrom : GoodIn wsX11_makes wsX11_makeFrom := goodIn_r _ [273, 5, 274, 275, 276, 277, 265, 278, 269, 267, 268, 279, 42, 43, 44, 45, 46, 280, 229, 230, 231, 82, 232, 281, 282, 283, 10, 284, 1, 285, 246, 247, 248, 22, 23, 24, 25, 26, 27, 28, 29, 30, 31, 32, 33, 34, 35, 36, 37, 38, 39, 40, 41, 47, 48, 49, 50, 51, 52, 53, 54, 55, 56, 57, 58, 59, 60, 61, 62, 63, 64, 65, 66, 67, 68, 69, 70, 71, 72, 73, 74, 75, 76, 77, 78, 79, 80, 81, 83, 84, 85, 86, 87, 88, 89, 90, 91, 92, 93, 94, 95, 96, 97, 98, 99, 100, 101, 102, 103, 104, 105, 106, 107, 108, 109, 110, 111, 112, 113, 114, 115, 116, 117, 118, 119, 120, 121, 122, 123, 124, 125, 126, 127, 128, 129, 130, 131, 132, 133, 134, 135, 136, 137, 138, 139, 140, 141, 142, 143, 144, 145, 146, 147, 148, 149, 150, 151, 152, 153, 154, 155, 156, 157, 158, 159, 160, 161, 162, 163, 164, 165, 166, 167, 168, 169, 170, 171, 172, 173, 174, 175, 176, 177, 178, 179, 180, 181, 182, 183, 184, 185, 186, 187, 188, 189, 190, 191, 192, 193, 194, 195, 196, 197, 198, 199, 200, 201, 202, 203, 204, 205, 206, 207, 208, 209, 210, 211, 212, 213, 214, 215, 216, 217, 218, 219, 220, 221, 222, 223, 224, 225, 226, 227, 228, 233, 234, 235, 236, 237, 238, 239, 240, 241, 242, 243, 244, 245, 249, 250, 251, 252, 253, 254, 255, 256, 257, 258, 259, 260, 261, 286, 287, 288, 289, 290, 291, 292, 293, 294, 295, 296, 297, 298, 299, 300, 301, 302, 303, 304, 305, 306, 307, 308, 309, 310, 311, 318, 319, 312, 313, 314, 315, 316, 317, 320, 321, 322, 323, 324, 325, 326, 327, 328, 329, 330, 331, 332, 333, 334, 335, 336, 337, 338, 339, 340, 341, 342, 343, 344, 345, 346, 347, 348, 349, 350, 351, 352, 353, 354, 355, 356, 357, 358, 359, 360, 361, 362] rfl (by decide +kernel)
set_option maxRecDepth 20000 in
theorem gX11_makes_X11_makeFrom : GoodIn wsX11_makes (wsV RX11 259 RX11 yX11_makeFrom wsX11_makeFrom) := goodIn_app (goodIn_of _ (by decide +kernel)) ggX11_makes_X11_makeFrom
theorem dX11_makes_0 : decode cX11_makes 0 = .ok (.aload_n 0, 1) := by decide +kernel
theorem dX11_makes_1 : decode cX11_makes 1 = .ok (.iload_n 1, 1) := by decide +kernel
theorem dX11_makes_2 : decode cX11_makes 2 = .ok (.invokevirtual 126, 3) := by decide +kernel
theorem dX11_makes_5 : decode cX11_makes 5 = .ok (.ifCond .eq 11, 3) := by decide +kernel
theorem dX11_makes_8 : decode cX11_makes 8 = .ok (.aload_n 0, 1) := by decide +kernel
theorem dX11_makes_9 : decode cX11_makes 9 = .ok (.iload_n 2, 1) := by decide +kernel
theorem dX11_makes_10 : decode cX11_makes 10 = .ok (.invokevirtual 126, 3) := by decide +kernel
theorem dX11_makes_13 : decode cX11_makes 13 = .ok (.ifCond .ne 5, 3) := by decide +kernel
theorem dX11_makes_16 : decode cX11_makes 16 = .ok (.iconst (-1), 1) := by decide +kernel
theorem dX11_makes_17 : decode cX11_makes 17 = .ok (.ireturn, 1) := by decide +kernel
theorem dX11_makes_18 : decode cX11_makes 18 = .ok (.aload_n 0, 1) := by decide +kernel
theorem dX11_makes_19 : decode cX11_makes 19 = .ok (.invokevirtual 204, 3) := by decide +kernel
theorem dX11_makes_22 : decode cX11_makes 22 = .ok (.ifCond .ne 6, 3) := by decide +kernel
theorem dX11_makes_25 : decode cX11_makes 25 = .ok (.bipush (-3), 2) := by decide +kernel
theorem dX11_makes_27 : decode cX11_makes 27 = .ok (.ireturn, 1) := by decide +kernel
theorem dX11_makes_28 : decode cX11_makes 28 = .ok (.aload_n 0, 1) := by decide +kernel
theorem dX11_makes_29 : decode cX11_makes 29 = .ok (.getfield 62, 3) := by decide +kernel
theorem dX11_makes_32 : decode cX11_makes 32 = .ok (.aload_n 0, 1) := by decide +kernel
theorem dX11_makes_33 : decode cX11_makes 33 = .ok (.getfield 25, 3) := by decide +kernel
theorem dX11_makes_36 : decode cX11_makes 36 = .ok (.iload_n 1, 1) := by decide +kernel
theorem dX11_makes_37 : decode cX11_makes 37 = .ok (.aaload, 1) := by decide +kernel
theorem dX11_makes_38 : decode cX11_makes 38 = .ok (.aload_n 0, 1) := by decide +kernel
theorem dX11_makes_39 : decode cX11_makes 39 = .ok (.getfield 66, 3) := by decide +kernel
theorem dX11_makes_42 : decode cX11_makes 42 = .ok (.invokevirtual 238, 3) := by decide +kernel
theorem dX11_makes_45 : decode cX11_makes 45 = .ok (.ifCond .eq 23, 3) := by decide +kernel
theorem dX11_makes_48 : decode cX11_makes 48 = .ok (.aload_n 0, 1) := by decide +kernel
theorem dX11_makes_49 : decode cX11_makes 49 = .ok (.getfield 62, 3) := by decide +kernel
theorem dX11_makes_52 : decode cX11_makes 52 = .ok (.aload_n 0, 1) := by decide +kernel
theorem dX11_makes_53 : decode cX11_makes 53 = .ok (.getfield 25, 3) := by decide +kernel
theorem dX11_makes_56 : decode cX11_makes 56 = .ok (.iload_n 2, 1) := by decide +kernel
theorem dX11_makes_57 : decode cX11_makes 57 = .ok (.aaload, 1) := by decide +kernel
theorem dX11_makes_58 : decode cX11_makes 58 = .ok (.aload_n 0, 1) := by decide +kernel
theorem dX11_makes_59 : decode cX11_makes 59 = .ok (.getfield 69, 3) := by decide +kernel
theorem dX11_makes_62 : decode cX11_makes 62 = .ok (.invokevirtual 238, 3) := by decide +kernel
theorem dX11_makes_65 : decode cX11_makes 65 = .ok (.ifCond .ne 6, 3) := by decide +kernel
theorem dX11_makes_68 : decode cX11_makes 68 = .ok (.bipush (-4), 2) := by decide +kernel
theorem dX11_makes_70 : decode cX11_makes 70 = .ok (.ireturn, 1) := by decide +kernel
theorem dX11_makes_71 : decode cX11_makes 71 = .ok (.aload_n 0, 1) := by decide +kernel
theorem dX11_makes_72 : decode cX11_makes 72 = .ok (.getfield 96, 3) := by decide +kernel
theorem dX11_makes_75 : decode cX11_makes 75 = .ok (.invokevirtual 257, 3) := by decide +kernel
theorem dX11_makes_78 : decode cX11_makes 78 = .ok (.iconst 0, 1) := by decide +kernel
theorem dX11_makes_79 : decode cX11_makes 79 = .ok (.istore_n 3, 1) := by decide +kernel
theorem dX11_makes_80 : decode cX11_makes 80 = .ok (.iload_n 3, 1) := by decide +kernel
theorem dX11_makes_81 : decode cX11_makes 81 = .ok (.sipush 300, 3) := by decide +kernel
theorem dX11_makes_84 : decode cX11_makes 84 = .ok (.if_icmp .ge 47, 3) := by decide +kernel
theorem dX11_makes_87 : decode cX11_makes 87 = .ok (.iload_n 3, 1) := by decide +kernel
theorem dX11_makes_88 : decode cX11_makes 88 = .ok (.aload_n 0, 1) := by decide +kernel
theorem dX11_makes_89 : decode cX11_makes 89 = .ok (.getfield 96, 3) := by decide +kernel
theorem dX11_makes_92 : decode cX11_makes 92 = .ok (.getfield 258, 3) := by decide +kernel
theorem dX11_makes_95 : decode cX11_makes 95 = .ok (.if_icmp .ge 36, 3) := by decide +kernel
theorem dX11_makes_98 : decode cX11_makes 98 = .ok (.aload_n 0, 1) := by decide +kernel
theorem dX11_makes_99 : decode cX11_makes 99 = .ok (.iload_n 3, 1) := by decide +kernel
theorem dX11_makes_100 : decode cX11_makes 100 = .ok (.aload_n 0, 1) := by decide +kernel
theorem dX11_makes_101 : decode cX11_makes 101 = .ok (.getfield 66, 3) := by decide +kernel
theorem dX11_makes_104 : decode cX11_makes 104 = .ok (.invokevirtual 259, 3) := by decide +kernel
theorem dX11_makes_107 : decode cX11_makes 107 = .ok (.ifCond .eq 15, 3) := by decide +kernel
theorem dX11_makes_110 : decode cX11_makes 110 = .ok (.aload_n 0, 1) := by decide +kernel
theorem dX11_makes_111 : decode cX11_makes 111 = .ok (.iload_n 3, 1) := by decide +kernel
theorem dX11_makes_112 : decode cX11_makes 112 = .ok (.aload_n 0, 1) := by decide +kernel
theorem dX11_makes_113 : decode cX11_makes 113 = .ok (.getfield 69, 3) := by decide +kernel
theorem dX11_makes_116 : decode cX11_makes 116 = .ok (.invokevirtual 259, 3) := by decide +kernel
theorem dX11_makes_119 : decode cX11_makes 119 = .ok (.ifCond .ne 6, 3) := by decide +kernel
theorem dX11_makes_122 : decode cX11_makes 122 = .ok (.bipush (-4), 2) := by decide +kernel
theorem dX11_makes_124 : decode cX11_makes 124 = .ok (.ireturn, 1) := by decide +kernel
theorem dX11_makes_125 : decode cX11_makes 125 = .ok (.iinc 3 1, 3) := by decide +kernel
theorem dX11_makes_128 : decode cX11_makes 128 = .ok (.goto (-48), 3) := by decide +kernel
theorem dX11_makes_131 : decode cX11_makes 131 = .ok (.aload_n 0, 1) := by decide +kernel
theorem dX11_makes_132 : decode cX11_makes 132 = .ok (.getfield 96, 3) := by decide +kernel
theorem dX11_makes_135 : decode cX11_makes 135 = .ok (.getfield 258, 3) := by decide +kernel
theorem dX11_makes_138 : decode cX11_makes 138 = .ok (.ireturn, 1) := by decide +kernel
theorem dX11_moveDown_0 : decode cX11_moveDown 0 = .ok (.iconst 0, 1) := by decide +kernel
theorem dX11_moveDown_1 : decode cX11_moveDown 1 = .ok (.istore 4, 2) := by decide +kernel
theorem dX11_moveDown_3 : decode cX11_moveDown 3 = .ok (.iload 4, 2) := by decide +kernel
theorem dX11_moveDown_5 : decode cX11_moveDown 5 = .ok (.iload_n 3, 1) := by decide +kernel
theorem dX11_moveDown_6 : decode cX11_moveDown 6 = .ok (.if_icmp .ge 39, 3) := by decide +kernel
theorem dX11_moveDown_9 : decode cX11_moveDown 9 = .ok (.iload_n 2, 1) := by decide +kernel
theorem dX11_moveDown_10 : decode cX11_moveDown 10 = .ok (.ifCond .lt 35, 3) := by decide +kernel
theorem dX11_moveDown_13 : decode cX11_moveDown 13 = .ok (.iload_n 2, 1) := by decide +kernel
theorem dX11_moveDown_14 : decode cX11_moveDown 14 = .ok (.iload_n 1, 1) := by decide +kernel
theorem dX11_moveDown_15 : decode cX11_moveDown 15 = .ok (.if_icmp .gt 30, 3) := by decide +kernel
theorem dX11_moveDown_18 : decode cX11_moveDown 18 = .ok (.iload_n 1, 1) := by decide +kernel
theorem dX11_moveDown_19 : decode cX11_moveDown 19 = .ok (.iload 4, 2) := by decide +kernel
theorem dX11_moveDown_21 : decode cX11_moveDown 21 = .ok (.iadd, 1) := by decide +kernel
theorem dX11_moveDown_22 : decode cX11_moveDown 22 = .ok (.aload_n 0, 1) := by decide +kernel
theorem dX11_moveDown_23 : decode cX11_moveDown 23 = .ok (.arraylength, 1) := by decide +kernel
theorem dX11_moveDown_24 : decode cX11_moveDown 24 = .ok (.if_icmp .ge 21, 3) := by decide +kernel
theorem dX11_moveDown_27 : decode cX11_moveDown 27 = .ok (.aload_n 0, 1) := by decide +kernel
theorem dX11_moveDown_28 : decode cX11_moveDown 28 = .ok (.iload_n 2, 1) := by decide +kernel
theorem dX11_moveDown_29 : decode cX11_moveDown 29 = .ok (.iload 4, 2) := by decide +kernel
theorem dX11_moveDown_31 : decode cX11_moveDown 31 = .ok (.iadd, 1) := by decide +kernel
theorem dX11_moveDown_32 : decode cX11_moveDown 32 = .ok (.aload_n 0, 1) := by decide +kernel
theorem dX11_moveDown_33 : decode cX11_moveDown 33 = .ok (.iload_n 1, 1) := by decide +kernel
theorem dX11_moveDown_34 : decode cX11_moveDown 34 = .ok (.iload 4, 2) := by decide +kernel
theorem dX11_moveDown_36 : decode cX11_moveDown 36 = .ok (.iadd, 1) := by decide +kernel
theorem dX11_moveDown_37 : decode cX11_moveDown 37 = .ok (.iaload, 1) := by decide +kernel
theorem dX11_moveDown_38 : decode cX11_moveDown 38 = .ok (.iastore, 1) := by decide +kernel
theorem dX11_moveDown_39 : decode cX11_moveDown 39 = .ok (.iinc 4 1, 3) := by decide +kernel
theorem dX11_moveDown_42 : decode cX11_moveDown 42 = .ok (.goto (-39), 3) := by decide +kernel
theorem dX11_moveDown_45 : decode cX11_moveDown 45 = .ok (.return_, 1) := by decide +kernel
set_option maxRecDepth 20000 in
theorem ggX11_nth_X11_isSlot : GoodIn wsX11_nth wsX11_isSlot := goodIn_r _ [8] (by decide +kernel) (by decide +kernel)
set_option maxRecDepth 20000 in
theorem gX11_nth_X11_isSlot : GoodIn wsX11_nth (wsV RX11 126 RX11 yX11_isSlot wsX11_isSlot) := goodIn_app (goodIn_of _ (by decide +kernel)) ggX11_nth_X11_isSlot
set_option maxRecDepth 20000 in
theorem ggX11_nth_X11_isProved : GoodIn wsX11_nth wsX11_isProved := goodIn_r _ [12, 13, 14, 15, 16, 7, 17, 18, 62, 63, 64, 65, 66, 67, 68, 69, 70, 71, 72, 73, 74, 75, 76, 77, 78] (by decide +kernel) (by decide +kernel)
set_option maxRecDepth 20000 in
theorem gX11_nth_X11_isProved : GoodIn wsX11_nth (wsV RX11 204 RX11 yX11_isProved wsX11_isProved) := goodIn_app (goodIn_of _ (by decide +kernel)) ggX11_nth_X11_isProved
set_option maxRecDepth 20000 in
theorem ggX11_nth_X3_writeNumber : GoodIn wsX11_nth wsX3_writeNumber := goodIn_r _ [23, 24, 25, 26, 27, 28, 29, 30, 31, 32, 33, 34, 35, 36, 37, 38, 39, 22, 40, 41, 42, 43, 44, 45, 46, 47, 48, 49, 50, 51, 52, 53, 54, 55, 56, 57, 58, 59, 60, 61, 81, 82, 83, 84, 85, 86, 87, 88, 89, 90, 91, 92, 93, 94, 79, 80] rfl (by decide +kernel)
set_option maxRecDepth 20000 in
theorem gX11_nth_X3_writeNumber : GoodIn wsX11_nth (wsV RX11 232 RX3 yX3_writeNumber wsX3_writeNumber) := goodIn_app (goodIn_of _ (by decide +kernel)) ggX11_nth_X3_writeNumber
theorem dX11_nth_0 : decode cX11_nth 0 = .ok (.aload_n 0, 1) := by decide +kernel
theorem dX11_nth_1 : decode cX11_nth 1 = .ok (.iload_n 3, 1) := by decide +kernel
theorem dX11_nth_2 : decode cX11_nth 2 = .ok (.invokevirtual 126, 3) := by decide +kernel
theorem dX11_nth_5 : decode cX11_nth 5 = .ok (.ifCond .ne 5, 3) := by decide +kernel
theorem dX11_nth_8 : decode cX11_nth 8 = .ok (.iconst (-1), 1) := by decide +kernel
theorem dX11_nth_9 : decode cX11_nth 9 = .ok (.ireturn, 1) := by decide +kernel
theorem dX11_nth_10 : decode cX11_nth 10 = .ok (.lload_n 1, 1) := by decide +kernel
theorem dX11_nth_11 : decode cX11_nth 11 = .ok (.lconst 0, 1) := by decide +kernel
theorem dX11_nth_12 : decode cX11_nth 12 = .ok (.lcmp, 1) := by decide +kernel
theorem dX11_nth_13 : decode cX11_nth 13 = .ok (.ifCond .ge 6, 3) := by decide +kernel
theorem dX11_nth_16 : decode cX11_nth 16 = .ok (.bipush (-2), 2) := by decide +kernel
theorem dX11_nth_18 : decode cX11_nth 18 = .ok (.ireturn, 1) := by decide +kernel
theorem dX11_nth_19 : decode cX11_nth 19 = .ok (.aload_n 0, 1) := by decide +kernel
theorem dX11_nth_20 : decode cX11_nth 20 = .ok (.invokevirtual 204, 3) := by decide +kernel
theorem dX11_nth_23 : decode cX11_nth 23 = .ok (.ifCond .ne 6, 3) := by decide +kernel
theorem dX11_nth_26 : decode cX11_nth 26 = .ok (.bipush (-3), 2) := by decide +kernel
theorem dX11_nth_28 : decode cX11_nth 28 = .ok (.ireturn, 1) := by decide +kernel
theorem dX11_nth_29 : decode cX11_nth 29 = .ok (.aload_n 0, 1) := by decide +kernel
theorem dX11_nth_30 : decode cX11_nth 30 = .ok (.getfield 53, 3) := by decide +kernel
theorem dX11_nth_33 : decode cX11_nth 33 = .ok (.lload_n 1, 1) := by decide +kernel
theorem dX11_nth_34 : decode cX11_nth 34 = .ok (.aload_n 0, 1) := by decide +kernel
theorem dX11_nth_35 : decode cX11_nth 35 = .ok (.getfield 25, 3) := by decide +kernel
theorem dX11_nth_38 : decode cX11_nth 38 = .ok (.iload_n 3, 1) := by decide +kernel
theorem dX11_nth_39 : decode cX11_nth 39 = .ok (.aaload, 1) := by decide +kernel
theorem dX11_nth_40 : decode cX11_nth 40 = .ok (.invokevirtual 232, 3) := by decide +kernel
theorem dX11_nth_43 : decode cX11_nth 43 = .ok (.ifCond .eq 15, 3) := by decide +kernel
theorem dX11_nth_46 : decode cX11_nth 46 = .ok (.aload_n 0, 1) := by decide +kernel
theorem dX11_nth_47 : decode cX11_nth 47 = .ok (.getfield 25, 3) := by decide +kernel
theorem dX11_nth_50 : decode cX11_nth 50 = .ok (.iload_n 3, 1) := by decide +kernel
theorem dX11_nth_51 : decode cX11_nth 51 = .ok (.aaload, 1) := by decide +kernel
theorem dX11_nth_52 : decode cX11_nth 52 = .ok (.getfield 123, 3) := by decide +kernel
theorem dX11_nth_55 : decode cX11_nth 55 = .ok (.goto 5, 3) := by decide +kernel
theorem dX11_nth_58 : decode cX11_nth 58 = .ok (.bipush (-9), 2) := by decide +kernel
theorem dX11_nth_60 : decode cX11_nth 60 = .ok (.ireturn, 1) := by decide +kernel
set_option maxRecDepth 20000 in
theorem ggX11_order_X11_isSlot : GoodIn wsX11_order wsX11_isSlot := goodIn_r _ [10] (by decide +kernel) (by decide +kernel)
set_option maxRecDepth 20000 in
theorem gX11_order_X11_isSlot : GoodIn wsX11_order (wsV RX11 126 RX11 yX11_isSlot wsX11_isSlot) := goodIn_app (goodIn_of _ (by decide +kernel)) ggX11_order_X11_isSlot
set_option maxRecDepth 20000 in
theorem ggX11_order_X11_isProved : GoodIn wsX11_order wsX11_isProved := goodIn_r _ [14, 15, 16, 17, 18, 9, 19, 20, 267, 268, 269, 270, 271, 272, 273, 274, 275, 276, 277, 278, 279, 280, 281, 282, 283] (by decide +kernel) (by decide +kernel)
set_option maxRecDepth 20000 in
theorem gX11_order_X11_isProved : GoodIn wsX11_order (wsV RX11 204 RX11 yX11_isProved wsX11_isProved) := goodIn_app (goodIn_of _ (by decide +kernel)) ggX11_order_X11_isProved
set_option maxRecDepth 20000 in
theorem ggX11_order_X6_run : GoodIn wsX11_order wsX6_run := goodIn_r _ [25, 26, 27, 28, 29, 30, 31, 32, 33, 34, 35, 36, 37, 38, 39, 40, 41, 42, 43, 44, 45, 46, 47, 48, 24, 49, 50, 51, 52, 53, 54, 55, 56, 57, 58, 59, 60, 61, 62, 63, 64, 65, 66, 67, 68, 69, 70, 71, 72, 73, 74, 75, 76, 77, 78, 79, 80, 81, 82, 83, 84, 85, 86, 87, 88, 89, 90, 91, 92, 93, 94, 95, 96, 97, 98, 99, 100, 101, 102, 103, 104, 105, 106, 107, 108, 109, 110, 111, 112, 113, 114, 115, 116, 117, 118, 119, 120, 121, 122, 123, 124, 125, 126, 127, 128, 129, 130, 131, 132, 133, 134, 135, 136, 137, 138, 139, 140, 141, 142, 143, 144, 145, 146, 147, 148, 149, 150, 151, 152, 153, 154, 155, 156, 157, 158, 159, 160, 161, 162, 163, 164, 165, 166, 167, 168, 169, 170, 171, 172, 173, 174, 175, 176, 177, 178, 179, 180, 181, 182, 183, 184, 185, 186, 187, 188, 189, 190, 191, 192, 193, 194, 195, 196, 197, 198, 199, 200, 201, 202, 203, 204, 205, 206, 207, 208, 209, 210, 211, 212, 213, 214, 215, 216, 217, 218, 219, 220, 221, 222, 223, 224, 225, 226, 227, 228, 229, 230, 231, 232, 233, 234, 235, 236, 237, 238, 239, 240, 241, 242, 9, 243, 244, 245, 246, 247, 248, 249, 250, 251, 252, 253, 254, 255, 256, 257, 258, 259, 260, 286, 287, 288, 289, 290, 291, 284, 285, 292, 293, 294, 295, 296, 297, 298, 299, 300, 301, 302, 303, 304, 305, 306, 307, 308, 309, 310, 311, 312, 313, 314, 315, 316, 317, 318, 319, 320, 321, 322, 323, 324, 325, 326, 327, 328, 329, 330, 331, 332, 333, 334] rfl (by decide +kernel)
set_option maxRecDepth 20000 in
theorem gX11_order_X6_run : GoodIn wsX11_order (wsV RX11 238 RX6 yX6_run wsX6_run) := goodIn_app (goodIn_of _ (by decide +kernel)) ggX11_order_X6_run
set_option maxRecDepth 20000 in
theorem ggX11_order_X10_wipe : GoodIn wsX11_order wsX10_wipe := goodIn_r _ [44, 45, 284, 285] (by decide +kernel) (by decide +kernel)
set_option maxRecDepth 20000 in
theorem gX11_order_X10_wipe : GoodIn wsX11_order (wsV RX11 107 RX10 yX10_wipe wsX10_wipe) := goodIn_app (goodIn_of _ (by decide +kernel)) ggX11_order_X10_wipe
set_option maxRecDepth 20000 in
theorem ggX11_order_X11_putBehind : GoodIn wsX11_order wsX11_putBehind := goodIn_r _ [265, 4, 1, 266, 245, 246, 43, 247, 45, 81, 21, 22, 23, 24, 25, 26, 27, 28, 29, 30, 31, 32, 33, 34, 35, 36, 37, 38, 39, 40, 41, 42, 44, 46, 47, 48, 49, 50, 51, 52, 53, 54, 55, 56, 57, 58, 59, 60, 61, 62, 63, 64, 65, 66, 67, 68, 69, 70, 71, 72, 73, 74, 75, 76, 77, 78, 79, 80, 82, 83, 84, 85, 86, 87, 88, 89, 90, 91, 92, 93, 94, 95, 96, 97, 98, 99, 100, 101, 102, 103, 104, 105, 106, 107, 108, 109, 110, 111, 112, 113, 114, 115, 116, 117, 118, 119, 120, 121, 122, 123, 124, 125, 126, 127, 128, 129, 130, 131, 132, 133, 134, 135, 136, 137, 138, 139, 140, 141, 142, 143, 144, 145, 146, 147, 148, 149, 150, 151, 152, 153, 154, 155, 156, 157, 158, 159, 160, 161, 162, 163, 164, 165, 166, 167, 168, 169, 170, 171, 172, 173, 174, 175, 176, 177, 178, 179, 180, 181, 182, 183, 184, 185, 186, 187, 188, 189, 190, 191, 192, 193, 194, 195, 196, 197, 198, 199, 200, 201, 202, 203, 204, 205, 206, 207, 208, 209, 210, 211, 212, 213, 214, 215, 216, 217, 218, 219, 220, 221, 222, 223, 224, 225, 226, 227, 228, 229, 230, 231, 232, 233, 234, 235, 236, 237, 238, 239, 240, 241, 242, 9, 243, 244, 248, 249, 250, 251, 252, 253, 254, 255, 256, 257, 258, 259, 260, 267, 268, 269, 270, 271, 272, 273, 274, 275, 276, 277, 278, 279, 280, 281, 282, 283, 284, 285, 286, 287, 288, 289, 290, 291, 292, 293, 294, 295, 296, 297, 298, 299, 300, 301, 302, 303, 304, 305, 306, 307, 308, 309, 310, 311, 312, 313, 314, 315, 316, 317, 318, 319, 320, 321, 322, 323, 324, 325, 326, 327, 328, 329, 330, 331, 332, 333, 334] rfl (by decide +kernel)
set_option maxRecDepth 20000 in
theorem gX11_order_X11_putBehind : GoodIn wsX11_order (wsV RX11 246 RX11 yX11_putBehind wsX11_putBehind) := goodIn_app (goodIn_of _ (by decide +kernel)) ggX11_order_X11_putBehind
theorem dX11_order_0 : decode cX11_order 0 = .ok (.aload_n 0, 1) := by decide +kernel
theorem dX11_order_1 : decode cX11_order 1 = .ok (.iload_n 1, 1) := by decide +kernel
theorem dX11_order_2 : decode cX11_order 2 = .ok (.invokevirtual 126, 3) := by decide +kernel
theorem dX11_order_5 : decode cX11_order 5 = .ok (.ifCond .ne 5, 3) := by decide +kernel
theorem dX11_order_8 : decode cX11_order 8 = .ok (.iconst (-1), 1) := by decide +kernel
theorem dX11_order_9 : decode cX11_order 9 = .ok (.ireturn, 1) := by decide +kernel
theorem dX11_order_10 : decode cX11_order 10 = .ok (.aload_n 0, 1) := by decide +kernel
theorem dX11_order_11 : decode cX11_order 11 = .ok (.invokevirtual 204, 3) := by decide +kernel
theorem dX11_order_14 : decode cX11_order 14 = .ok (.ifCond .ne 6, 3) := by decide +kernel
theorem dX11_order_17 : decode cX11_order 17 = .ok (.bipush (-3), 2) := by decide +kernel
theorem dX11_order_19 : decode cX11_order 19 = .ok (.ireturn, 1) := by decide +kernel
theorem dX11_order_20 : decode cX11_order 20 = .ok (.aload_n 0, 1) := by decide +kernel
theorem dX11_order_21 : decode cX11_order 21 = .ok (.getfield 62, 3) := by decide +kernel
theorem dX11_order_24 : decode cX11_order 24 = .ok (.aload_n 0, 1) := by decide +kernel
theorem dX11_order_25 : decode cX11_order 25 = .ok (.getfield 25, 3) := by decide +kernel
theorem dX11_order_28 : decode cX11_order 28 = .ok (.iload_n 1, 1) := by decide +kernel
theorem dX11_order_29 : decode cX11_order 29 = .ok (.aaload, 1) := by decide +kernel
theorem dX11_order_30 : decode cX11_order 30 = .ok (.aload_n 0, 1) := by decide +kernel
theorem dX11_order_31 : decode cX11_order 31 = .ok (.getfield 66, 3) := by decide +kernel
theorem dX11_order_34 : decode cX11_order 34 = .ok (.invokevirtual 238, 3) := by decide +kernel
theorem dX11_order_37 : decode cX11_order 37 = .ok (.ifCond .ne 6, 3) := by decide +kernel
theorem dX11_order_40 : decode cX11_order 40 = .ok (.bipush (-4), 2) := by decide +kernel
theorem dX11_order_42 : decode cX11_order 42 = .ok (.ireturn, 1) := by decide +kernel
theorem dX11_order_43 : decode cX11_order 43 = .ok (.aload_n 0, 1) := by decide +kernel
theorem dX11_order_44 : decode cX11_order 44 = .ok (.getfield 72, 3) := by decide +kernel
theorem dX11_order_47 : decode cX11_order 47 = .ok (.invokevirtual 107, 3) := by decide +kernel
theorem dX11_order_50 : decode cX11_order 50 = .ok (.iconst 1, 1) := by decide +kernel
theorem dX11_order_51 : decode cX11_order 51 = .ok (.istore_n 2, 1) := by decide +kernel
theorem dX11_order_52 : decode cX11_order 52 = .ok (.iload_n 2, 1) := by decide +kernel
theorem dX11_order_53 : decode cX11_order 53 = .ok (.bipush 100, 2) := by decide +kernel
theorem dX11_order_55 : decode cX11_order 55 = .ok (.if_icmp .gt 35, 3) := by decide +kernel
theorem dX11_order_58 : decode cX11_order 58 = .ok (.aload_n 0, 1) := by decide +kernel
theorem dX11_order_59 : decode cX11_order 59 = .ok (.aload_n 0, 1) := by decide +kernel
theorem dX11_order_60 : decode cX11_order 60 = .ok (.getfield 66, 3) := by decide +kernel
theorem dX11_order_63 : decode cX11_order 63 = .ok (.invokevirtual 246, 3) := by decide +kernel
theorem dX11_order_66 : decode cX11_order 66 = .ok (.ifCond .ne 6, 3) := by decide +kernel
theorem dX11_order_69 : decode cX11_order 69 = .ok (.bipush (-4), 2) := by decide +kernel
theorem dX11_order_71 : decode cX11_order 71 = .ok (.ireturn, 1) := by decide +kernel
theorem dX11_order_72 : decode cX11_order 72 = .ok (.aload_n 0, 1) := by decide +kernel
theorem dX11_order_73 : decode cX11_order 73 = .ok (.getfield 72, 3) := by decide +kernel
theorem dX11_order_76 : decode cX11_order 76 = .ok (.getfield 123, 3) := by decide +kernel
theorem dX11_order_79 : decode cX11_order 79 = .ok (.ifCond .ne 5, 3) := by decide +kernel
theorem dX11_order_82 : decode cX11_order 82 = .ok (.iload_n 2, 1) := by decide +kernel
theorem dX11_order_83 : decode cX11_order 83 = .ok (.ireturn, 1) := by decide +kernel
theorem dX11_order_84 : decode cX11_order 84 = .ok (.iinc 2 1, 3) := by decide +kernel
theorem dX11_order_87 : decode cX11_order 87 = .ok (.goto (-35), 3) := by decide +kernel
theorem dX11_order_90 : decode cX11_order 90 = .ok (.bipush (-9), 2) := by decide +kernel
theorem dX11_order_92 : decode cX11_order 92 = .ok (.ireturn, 1) := by decide +kernel
theorem dX11_placeOf_0 : decode cX11_placeOf 0 = .ok (.iconst 0, 1) := by decide +kernel
theorem dX11_placeOf_1 : decode cX11_placeOf 1 = .ok (.istore_n 3, 1) := by decide +kernel
theorem dX11_placeOf_2 : decode cX11_placeOf 2 = .ok (.iload_n 1, 1) := by decide +kernel
theorem dX11_placeOf_3 : decode cX11_placeOf 3 = .ok (.aload_n 0, 1) := by decide +kernel
theorem dX11_placeOf_4 : decode cX11_placeOf 4 = .ok (.arraylength, 1) := by decide +kernel
theorem dX11_placeOf_5 : decode cX11_placeOf 5 = .ok (.invokestatic 282, 3) := by decide +kernel
theorem dX11_placeOf_8 : decode cX11_placeOf 8 = .ok (.istore 4, 2) := by decide +kernel
theorem dX11_placeOf_10 : decode cX11_placeOf 10 = .ok (.iload_n 3, 1) := by decide +kernel
theorem dX11_placeOf_11 : decode cX11_placeOf 11 = .ok (.iload 4, 2) := by decide +kernel
theorem dX11_placeOf_13 : decode cX11_placeOf 13 = .ok (.if_icmp .ge 34, 3) := by decide +kernel
theorem dX11_placeOf_16 : decode cX11_placeOf 16 = .ok (.iload_n 3, 1) := by decide +kernel
theorem dX11_placeOf_17 : decode cX11_placeOf 17 = .ok (.iload 4, 2) := by decide +kernel
theorem dX11_placeOf_19 : decode cX11_placeOf 19 = .ok (.iadd, 1) := by decide +kernel
theorem dX11_placeOf_20 : decode cX11_placeOf 20 = .ok (.iconst 2, 1) := by decide +kernel
theorem dX11_placeOf_21 : decode cX11_placeOf 21 = .ok (.idiv, 1) := by decide +kernel
theorem dX11_placeOf_22 : decode cX11_placeOf 22 = .ok (.istore 5, 2) := by decide +kernel
theorem dX11_placeOf_24 : decode cX11_placeOf 24 = .ok (.aload_n 0, 1) := by decide +kernel
theorem dX11_placeOf_25 : decode cX11_placeOf 25 = .ok (.iload 5, 2) := by decide +kernel
theorem dX11_placeOf_27 : decode cX11_placeOf 27 = .ok (.iaload, 1) := by decide +kernel
theorem dX11_placeOf_28 : decode cX11_placeOf 28 = .ok (.iload_n 2, 1) := by decide +kernel
theorem dX11_placeOf_29 : decode cX11_placeOf 29 = .ok (.if_icmp .ge 11, 3) := by decide +kernel
theorem dX11_placeOf_32 : decode cX11_placeOf 32 = .ok (.iload 5, 2) := by decide +kernel
theorem dX11_placeOf_34 : decode cX11_placeOf 34 = .ok (.iconst 1, 1) := by decide +kernel
theorem dX11_placeOf_35 : decode cX11_placeOf 35 = .ok (.iadd, 1) := by decide +kernel
theorem dX11_placeOf_36 : decode cX11_placeOf 36 = .ok (.istore_n 3, 1) := by decide +kernel
theorem dX11_placeOf_37 : decode cX11_placeOf 37 = .ok (.goto 7, 3) := by decide +kernel
theorem dX11_placeOf_40 : decode cX11_placeOf 40 = .ok (.iload 5, 2) := by decide +kernel
theorem dX11_placeOf_42 : decode cX11_placeOf 42 = .ok (.istore 4, 2) := by decide +kernel
theorem dX11_placeOf_44 : decode cX11_placeOf 44 = .ok (.goto (-34), 3) := by decide +kernel
theorem dX11_placeOf_47 : decode cX11_placeOf 47 = .ok (.iload_n 3, 1) := by decide +kernel
theorem dX11_placeOf_48 : decode cX11_placeOf 48 = .ok (.iload_n 1, 1) := by decide +kernel
theorem dX11_placeOf_49 : decode cX11_placeOf 49 = .ok (.if_icmp .ge 20, 3) := by decide +kernel
theorem dX11_placeOf_52 : decode cX11_placeOf 52 = .ok (.iload_n 3, 1) := by decide +kernel
theorem dX11_placeOf_53 : decode cX11_placeOf 53 = .ok (.aload_n 0, 1) := by decide +kernel
theorem dX11_placeOf_54 : decode cX11_placeOf 54 = .ok (.arraylength, 1) := by decide +kernel
theorem dX11_placeOf_55 : decode cX11_placeOf 55 = .ok (.if_icmp .ge 14, 3) := by decide +kernel
theorem dX11_placeOf_58 : decode cX11_placeOf 58 = .ok (.aload_n 0, 1) := by decide +kernel
theorem dX11_placeOf_59 : decode cX11_placeOf 59 = .ok (.iload_n 3, 1) := by decide +kernel
theorem dX11_placeOf_60 : decode cX11_placeOf 60 = .ok (.iaload, 1) := by decide +kernel
theorem dX11_placeOf_61 : decode cX11_placeOf 61 = .ok (.iload_n 2, 1) := by decide +kernel
theorem dX11_placeOf_62 : decode cX11_placeOf 62 = .ok (.if_icmp .ne 7, 3) := by decide +kernel
theorem dX11_placeOf_65 : decode cX11_placeOf 65 = .ok (.iload_n 3, 1) := by decide +kernel
theorem dX11_placeOf_66 : decode cX11_placeOf 66 = .ok (.goto 6, 3) := by decide +kernel
theorem dX11_placeOf_69 : decode cX11_placeOf 69 = .ok (.iconst (-1), 1) := by decide +kernel
theorem dX11_placeOf_70 : decode cX11_placeOf 70 = .ok (.iload_n 3, 1) := by decide +kernel
theorem dX11_placeOf_71 : decode cX11_placeOf 71 = .ok (.isub, 1) := by decide +kernel
theorem dX11_placeOf_72 : decode cX11_placeOf 72 = .ok (.ireturn, 1) := by decide +kernel
set_option maxRecDepth 20000 in
theorem ggX11_power_X11_isSlot : GoodIn wsX11_power wsX11_isSlot := goodIn_r _ [10] (by decide +kernel) (by decide +kernel)
set_option maxRecDepth 20000 in
theorem gX11_power_X11_isSlot : GoodIn wsX11_power (wsV RX11 126 RX11 yX11_isSlot wsX11_isSlot) := goodIn_app (goodIn_of _ (by decide +kernel)) ggX11_power_X11_isSlot
set_option maxRecDepth 20000 in
theorem ggX11_power_X11_isProved : GoodIn wsX11_power wsX11_isProved := goodIn_r _ [14, 15, 16, 17, 18, 9, 19, 20, 268, 269, 270, 271, 272, 273, 274, 275, 276, 277, 278, 279, 280, 281, 282, 283, 284] (by decide +kernel) (by decide +kernel)
set_option maxRecDepth 20000 in
theorem gX11_power_X11_isProved : GoodIn wsX11_power (wsV RX11 204 RX11 yX11_isProved wsX11_isProved) := goodIn_app (goodIn_of _ (by decide +kernel)) ggX11_power_X11_isProved
set_option maxRecDepth 20000 in
theorem ggX11_power_X6_run : GoodIn wsX11_power wsX6_run := goodIn_r _ [25, 26, 27, 28, 29, 30, 31, 32, 33, 34, 35, 36, 37, 38, 39, 40, 41, 42, 43, 44, 45, 46, 47, 48, 24, 49, 50, 51, 52, 53, 54, 55, 56, 57, 58, 59, 60, 61, 62, 63, 64, 65, 66, 67, 68, 69, 70, 71, 72, 73, 74, 75, 76, 77, 78, 79, 80, 81, 82, 83, 84, 85, 86, 87, 88, 89, 90, 91, 92, 93, 94, 95, 96, 97, 98, 99, 100, 101, 102, 103, 104, 105, 106, 107, 108, 109, 110, 111, 112, 113, 114, 115, 116, 117, 118, 119, 120, 121, 122, 123, 124, 125, 126, 127, 128, 129, 130, 131, 132, 133, 134, 135, 136, 137, 138, 139, 140, 141, 142, 143, 144, 145, 146, 147, 148, 149, 150, 151, 152, 153, 154, 155, 156, 157, 158, 159, 160, 161, 162, 163, 164, 165, 166, 167, 168, 169, 170, 171, 172, 173, 174, 175, 176, 177, 178, 179, 180, 181, 182, 183, 184, 185, 186, 187, 188, 189, 190, 191, 192, 193, 194, 195, 196, 197, 198, 199, 200, 201, 202, 203, 204, 205, 206, 207, 208, 209, 210, 211, 212, 213, 214, 215, 216, 217, 218, 219, 220, 221, 222, 223, 224, 225, 226, 227, 228, 229, 230, 231, 232, 233, 234, 235, 236, 237, 238, 239, 240, 241, 242, 9, 243, 244, 245, 246, 247, 248, 249, 250, 251, 252, 253, 254, 255, 256, 257, 258, 259, 260, 287, 288, 289, 290, 291, 292, 285, 286, 293, 294, 295, 296, 297, 298, 299, 300, 301, 302, 303, 304, 305, 306, 307, 308, 309, 310, 311, 312, 313, 314, 315, 316, 317, 318, 319, 320, 321, 322, 323, 324, 325, 326, 327, 328, 329, 330, 331, 332, 333, 334, 335] rfl (by decide +kernel)
set_option maxRecDepth 20000 in
theorem gX11_power_X6_run : GoodIn wsX11_power (wsV RX11 238 RX6 yX6_run wsX6_run) := goodIn_app (goodIn_of _ (by decide +kernel)) ggX11_power_X6_run
set_option maxRecDepth 20000 in
theorem ggX11_power_X10_wipe : GoodIn wsX11_power wsX10_wipe := goodIn_r _ [44, 45, 285, 286] (by decide +kernel) (by decide +kernel)
set_option maxRecDepth 20000 in
theorem gX11_power_X10_wipe : GoodIn wsX11_power (wsV RX11 107 RX10 yX10_wipe wsX10_wipe) := goodIn_app (goodIn_of _ (by decide +kernel)) ggX11_power_X10_wipe
set_option maxRecDepth 20000 in
theorem ggX11_power_X11_putBehind : GoodIn wsX11_power wsX11_putBehind := goodIn_r _ [265, 4, 1, 266, 245, 246, 43, 247, 45, 81, 21, 22, 23, 24, 25, 26, 27, 28, 29, 30, 31, 32, 33, 34, 35, 36, 37, 38, 39, 40, 41, 42, 44, 46, 47, 48, 49, 50, 51, 52, 53, 54, 55, 56, 57, 58, 59, 60, 61, 62, 63, 64, 65, 66, 67, 68, 69, 70, 71, 72, 73, 74, 75, 76, 77, 78, 79, 80, 82, 83, 84, 85, 86, 87, 88, 89, 90, 91, 92, 93, 94, 95, 96, 97, 98, 99, 100, 101, 102, 103, 104, 105, 106, 107, 108, 109, 110, 111, 112, 113, 114, 115, 116, 117, 118, 119, 120, 121, 122, 123, 124, 125, 126, 127, 128, 129, 130, 131, 132, 133, 134, 135, 136, 137, 138, 139, 140, 141, 142, 143, 144, 145, 146, 147, 148, 149, 150, 151, 152, 153, 154, 155, 156, 157, 158, 159, 160, 161, 162, 163, 164, 165, 166, 167, 168, 169, 170, 171, 172, 173, 174, 175, 176, 177, 178, 179, 180, 181, 182, 183, 184, 185, 186, 187, 188, 189, 190, 191, 192, 193, 194, 195, 196, 197, 198, 199, 200, 201, 202, 203, 204, 205, 206, 207, 208, 209, 210, 211, 212, 213, 214, 215, 216, 217, 218, 219, 220, 221, 222, 223, 224, 225, 226, 227, 228, 229, 230, 231, 232, 233, 234, 235, 236, 237, 238, 239, 240, 241, 242, 9, 243, 244, 248, 249, 250, 251, 252, 253, 254, 255, 256, 257, 258, 259, 260, 268, 269, 270, 271, 272, 273, 274, 275, 276, 277, 278, 279, 280, 281, 282, 283, 284, 285, 286, 287, 288, 289, 290, 291, 292, 293, 294, 295, 296, 297, 298, 299, 300, 301, 302, 303, 304, 305, 306, 307, 308, 309, 310, 311, 312, 313, 314, 315, 316, 317, 318, 319, 320, 321, 322, 323, 324, 325, 326, 327, 328, 329, 330, 331, 332, 333, 334, 335] rfl (by decide +kernel)
set_option maxRecDepth 20000 in
theorem gX11_power_X11_putBehind : GoodIn wsX11_power (wsV RX11 246 RX11 yX11_putBehind wsX11_putBehind) := goodIn_app (goodIn_of _ (by decide +kernel)) ggX11_power_X11_putBehind
set_option maxRecDepth 20000 in
theorem ggX11_power_X10_take : GoodIn wsX11_power wsX10_take := goodIn_r _ [201, 45, 81, 202, 29, 30, 31, 285, 286] (by decide +kernel) (by decide +kernel)
set_option maxRecDepth 20000 in
theorem gX11_power_X10_take : GoodIn wsX11_power (wsV RX11 129 RX10 yX10_take wsX10_take) := goodIn_app (goodIn_of _ (by decide +kernel)) ggX11_power_X10_take
theorem dX11_power_0 : decode cX11_power 0 = .ok (.aload_n 0, 1) := by decide +kernel
theorem dX11_power_1 : decode cX11_power 1 = .ok (.iload_n 1, 1) := by decide +kernel
theorem dX11_power_2 : decode cX11_power 2 = .ok (.invokevirtual 126, 3) := by decide +kernel
theorem dX11_power_5 : decode cX11_power 5 = .ok (.ifCond .eq 11, 3) := by decide +kernel
theorem dX11_power_8 : decode cX11_power 8 = .ok (.aload_n 0, 1) := by decide +kernel
theorem dX11_power_9 : decode cX11_power 9 = .ok (.iload_n 3, 1) := by decide +kernel
theorem dX11_power_10 : decode cX11_power 10 = .ok (.invokevirtual 126, 3) := by decide +kernel
theorem dX11_power_13 : decode cX11_power 13 = .ok (.ifCond .ne 5, 3) := by decide +kernel
theorem dX11_power_16 : decode cX11_power 16 = .ok (.iconst (-1), 1) := by decide +kernel
theorem dX11_power_17 : decode cX11_power 17 = .ok (.ireturn, 1) := by decide +kernel
theorem dX11_power_18 : decode cX11_power 18 = .ok (.iload_n 2, 1) := by decide +kernel
theorem dX11_power_19 : decode cX11_power 19 = .ok (.ifCond .lt 9, 3) := by decide +kernel
theorem dX11_power_22 : decode cX11_power 22 = .ok (.iload_n 2, 1) := by decide +kernel
theorem dX11_power_23 : decode cX11_power 23 = .ok (.bipush 100, 2) := by decide +kernel
theorem dX11_power_25 : decode cX11_power 25 = .ok (.if_icmp .le 6, 3) := by decide +kernel
theorem dX11_power_28 : decode cX11_power 28 = .ok (.bipush (-2), 2) := by decide +kernel
theorem dX11_power_30 : decode cX11_power 30 = .ok (.ireturn, 1) := by decide +kernel
theorem dX11_power_31 : decode cX11_power 31 = .ok (.aload_n 0, 1) := by decide +kernel
theorem dX11_power_32 : decode cX11_power 32 = .ok (.invokevirtual 204, 3) := by decide +kernel
theorem dX11_power_35 : decode cX11_power 35 = .ok (.ifCond .ne 6, 3) := by decide +kernel
theorem dX11_power_38 : decode cX11_power 38 = .ok (.bipush (-3), 2) := by decide +kernel
theorem dX11_power_40 : decode cX11_power 40 = .ok (.ireturn, 1) := by decide +kernel
theorem dX11_power_41 : decode cX11_power 41 = .ok (.aload_n 0, 1) := by decide +kernel
theorem dX11_power_42 : decode cX11_power 42 = .ok (.getfield 62, 3) := by decide +kernel
theorem dX11_power_45 : decode cX11_power 45 = .ok (.aload_n 0, 1) := by decide +kernel
theorem dX11_power_46 : decode cX11_power 46 = .ok (.getfield 25, 3) := by decide +kernel
theorem dX11_power_49 : decode cX11_power 49 = .ok (.iload_n 1, 1) := by decide +kernel
theorem dX11_power_50 : decode cX11_power 50 = .ok (.aaload, 1) := by decide +kernel
theorem dX11_power_51 : decode cX11_power 51 = .ok (.aload_n 0, 1) := by decide +kernel
theorem dX11_power_52 : decode cX11_power 52 = .ok (.getfield 66, 3) := by decide +kernel
theorem dX11_power_55 : decode cX11_power 55 = .ok (.invokevirtual 238, 3) := by decide +kernel
theorem dX11_power_58 : decode cX11_power 58 = .ok (.ifCond .ne 6, 3) := by decide +kernel
theorem dX11_power_61 : decode cX11_power 61 = .ok (.bipush (-4), 2) := by decide +kernel
theorem dX11_power_63 : decode cX11_power 63 = .ok (.ireturn, 1) := by decide +kernel
theorem dX11_power_64 : decode cX11_power 64 = .ok (.aload_n 0, 1) := by decide +kernel
theorem dX11_power_65 : decode cX11_power 65 = .ok (.getfield 72, 3) := by decide +kernel
theorem dX11_power_68 : decode cX11_power 68 = .ok (.invokevirtual 107, 3) := by decide +kernel
theorem dX11_power_71 : decode cX11_power 71 = .ok (.iconst 0, 1) := by decide +kernel
theorem dX11_power_72 : decode cX11_power 72 = .ok (.istore 4, 2) := by decide +kernel
theorem dX11_power_74 : decode cX11_power 74 = .ok (.iload 4, 2) := by decide +kernel
theorem dX11_power_76 : decode cX11_power 76 = .ok (.iload_n 2, 1) := by decide +kernel
theorem dX11_power_77 : decode cX11_power 77 = .ok (.if_icmp .ge 23, 3) := by decide +kernel
theorem dX11_power_80 : decode cX11_power 80 = .ok (.aload_n 0, 1) := by decide +kernel
theorem dX11_power_81 : decode cX11_power 81 = .ok (.aload_n 0, 1) := by decide +kernel
theorem dX11_power_82 : decode cX11_power 82 = .ok (.getfield 66, 3) := by decide +kernel
theorem dX11_power_85 : decode cX11_power 85 = .ok (.invokevirtual 246, 3) := by decide +kernel
theorem dX11_power_88 : decode cX11_power 88 = .ok (.ifCond .ne 6, 3) := by decide +kernel
theorem dX11_power_91 : decode cX11_power 91 = .ok (.bipush (-4), 2) := by decide +kernel
theorem dX11_power_93 : decode cX11_power 93 = .ok (.ireturn, 1) := by decide +kernel
theorem dX11_power_94 : decode cX11_power 94 = .ok (.iinc 4 1, 3) := by decide +kernel
theorem dX11_power_97 : decode cX11_power 97 = .ok (.goto (-23), 3) := by decide +kernel
theorem dX11_power_100 : decode cX11_power 100 = .ok (.aload_n 0, 1) := by decide +kernel
theorem dX11_power_101 : decode cX11_power 101 = .ok (.getfield 25, 3) := by decide +kernel
theorem dX11_power_104 : decode cX11_power 104 = .ok (.iload_n 3, 1) := by decide +kernel
theorem dX11_power_105 : decode cX11_power 105 = .ok (.aaload, 1) := by decide +kernel
theorem dX11_power_106 : decode cX11_power 106 = .ok (.aload_n 0, 1) := by decide +kernel
theorem dX11_power_107 : decode cX11_power 107 = .ok (.getfield 72, 3) := by decide +kernel
theorem dX11_power_110 : decode cX11_power 110 = .ok (.invokevirtual 129, 3) := by decide +kernel
theorem dX11_power_113 : decode cX11_power 113 = .ok (.aload_n 0, 1) := by decide +kernel
theorem dX11_power_114 : decode cX11_power 114 = .ok (.getfield 72, 3) := by decide +kernel
theorem dX11_power_117 : decode cX11_power 117 = .ok (.getfield 123, 3) := by decide +kernel
theorem dX11_power_120 : decode cX11_power 120 = .ok (.ireturn, 1) := by decide +kernel
set_option maxRecDepth 20000 in
theorem ggX11_putBehind_X10_append : GoodIn wsX11_putBehind wsX10_append := goodIn_r _ [7, 8, 9, 262, 263] (by decide +kernel) (by decide +kernel)
set_option maxRecDepth 20000 in
theorem gX11_putBehind_X10_append : GoodIn wsX11_putBehind (wsV RX11 273 RX10 yX10_append wsX10_append) := goodIn_app (goodIn_of _ (by decide +kernel)) ggX11_putBehind_X10_append
set_option maxRecDepth 20000 in
theorem ggX11_putBehind_X6_run : GoodIn wsX11_putBehind wsX6_run := goodIn_r _ [14, 15, 16, 17, 18, 19, 20, 21, 22, 23, 24, 25, 26, 27, 28, 29, 30, 31, 6, 32, 8, 33, 34, 35, 13, 36, 37, 38, 39, 40, 41, 42, 43, 44, 45, 46, 47, 48, 49, 50, 51, 52, 53, 54, 55, 56, 57, 58, 59, 60, 61, 62, 63, 64, 65, 66, 67, 9, 68, 69, 70, 71, 72, 73, 74, 75, 76, 77, 78, 79, 80, 81, 82, 83, 84, 85, 86, 87, 88, 89, 90, 91, 92, 93, 94, 95, 96, 97, 98, 99, 100, 101, 102, 103, 104, 105, 106, 107, 108, 109, 110, 111, 112, 113, 114, 115, 116, 117, 118, 119, 120, 121, 122, 123, 124, 125, 126, 127, 128, 129, 130, 131, 132, 133, 134, 135, 136, 137, 138, 139, 140, 141, 142, 143, 144, 145, 146, 147, 148, 149, 150, 151, 152, 153, 154, 155, 156, 157, 158, 159, 160, 161, 162, 163, 164, 165, 166, 167, 168, 169, 170, 171, 172, 173, 174, 175, 176, 177, 178, 179, 180, 181, 182, 183, 184, 185, 186, 187, 188, 189, 190, 191, 192, 193, 194, 195, 196, 197, 198, 199, 200, 201, 202, 203, 204, 205, 206, 207, 208, 209, 210, 211, 212, 213, 214, 215, 216, 217, 218, 219, 220, 221, 222, 223, 224, 225, 226, 227, 228, 229, 230, 231, 4, 5, 7, 232, 233, 234, 235, 236, 237, 238, 239, 240, 241, 242, 243, 244, 264, 265, 266, 267, 268, 269, 262, 263, 270, 271, 272, 273, 274, 275, 276, 277, 278, 279, 280, 281, 282, 283, 284, 285, 286, 287, 288, 289, 290, 291, 292, 293, 294, 295, 296, 297, 298, 299, 300, 301, 302, 303, 304, 305, 306, 307, 308, 309, 310, 311, 312] rfl (by decide +kernel)
set_option maxRecDepth 20000 in
theorem gX11_putBehind_X6_run : GoodIn wsX11_putBehind (wsV RX11 238 RX6 yX6_run wsX6_run) := goodIn_app (goodIn_of _ (by decide +kernel)) ggX11_putBehind_X6_run
theorem dX11_putBehind_0 : decode cX11_putBehind 0 = .ok (.aload_n 0, 1) := by decide +kernel
theorem dX11_putBehind_1 : decode cX11_putBehind 1 = .ok (.getfield 72, 3) := by decide +kernel
theorem dX11_putBehind_4 : decode cX11_putBehind 4 = .ok (.aload_n 1, 1) := by decide +kernel
theorem dX11_putBehind_5 : decode cX11_putBehind 5 = .ok (.invokevirtual 273, 3) := by decide +kernel
theorem dX11_putBehind_8 : decode cX11_putBehind 8 = .ok (.ifCond .eq 25, 3) := by decide +kernel
theorem dX11_putBehind_11 : decode cX11_putBehind 11 = .ok (.aload_n 0, 1) := by decide +kernel
theorem dX11_putBehind_12 : decode cX11_putBehind 12 = .ok (.getfield 62, 3) := by decide +kernel
theorem dX11_putBehind_15 : decode cX11_putBehind 15 = .ok (.aload_n 0, 1) := by decide +kernel
theorem dX11_putBehind_16 : decode cX11_putBehind 16 = .ok (.getfield 72, 3) := by decide +kernel
theorem dX11_putBehind_19 : decode cX11_putBehind 19 = .ok (.aload_n 0, 1) := by decide +kernel
theorem dX11_putBehind_20 : decode cX11_putBehind 20 = .ok (.getfield 72, 3) := by decide +kernel
theorem dX11_putBehind_23 : decode cX11_putBehind 23 = .ok (.invokevirtual 238, 3) := by decide +kernel
theorem dX11_putBehind_26 : decode cX11_putBehind 26 = .ok (.ifCond .eq 7, 3) := by decide +kernel
theorem dX11_putBehind_29 : decode cX11_putBehind 29 = .ok (.iconst 1, 1) := by decide +kernel
theorem dX11_putBehind_30 : decode cX11_putBehind 30 = .ok (.goto 4, 3) := by decide +kernel
theorem dX11_putBehind_33 : decode cX11_putBehind 33 = .ok (.iconst 0, 1) := by decide +kernel
theorem dX11_putBehind_34 : decode cX11_putBehind 34 = .ok (.ireturn, 1) := by decide +kernel
