set_option maxRecDepth 20000 in
theorem ggX11_inverse_X11_isSlot : GoodIn wsX11_inverse wsX11_isSlot := goodIn_r _ [12] (by decide +kernel) (by decide +kernel)
set_option maxRecDepth 20000 in
theorem gX11_inverse_X11_isSlot : GoodIn wsX11_inverse (wsV RX11 126 RX11 yX11_isSlot wsX11_isSlot) := goodIn_app (goodIn_of _ (by decide +kernel)) ggX11_inverse_X11_isSlot
set_option maxRecDepth 20000 in
theorem ggX11_inverse_X11_isProved : GoodIn wsX11_inverse wsX11_isProved := goodIn_r _ [16, 17, 18, 19, 20, 11, 21, 22, 295, 296, 297, 298, 299, 300, 301, 302, 303, 304, 305, 306, 307, 308, 309, 310, 311] (by decide +kernel) (by decide +kernel)
set_option maxRecDepth 20000 in
theorem gX11_inverse_X11_isProved : GoodIn wsX11_inverse (wsV RX11 204 RX11 yX11_isProved wsX11_isProved) := goodIn_app (goodIn_of _ (by decide +kernel)) ggX11_inverse_X11_isProved
set_option maxRecDepth 20000 in
theorem ggX11_inverse_X6_run : GoodIn wsX11_inverse wsX6_run := goodIn_r _ [27, 28, 29, 30, 31, 32, 33, 34, 35, 36, 37, 38, 39, 40, 41, 42, 43, 44, 45, 46, 47, 48, 49, 50, 26, 51, 52, 53, 54, 55, 56, 57, 58, 59, 60, 61, 62, 63, 64, 65, 66, 67, 68, 69, 70, 71, 72, 73, 74, 75, 76, 77, 78, 79, 80, 81, 82, 83, 84, 85, 86, 87, 88, 89, 90, 91, 92, 93, 94, 95, 96, 97, 98, 99, 100, 101, 102, 103, 104, 105, 106, 107, 108, 109, 110, 111, 112, 113, 114, 115, 116, 117, 118, 119, 120, 121, 122, 123, 124, 125, 126, 127, 128, 129, 130, 131, 132, 133, 134, 135, 136, 137, 138, 139, 140, 141, 142, 143, 144, 145, 146, 147, 148, 149, 150, 151, 152, 153, 154, 155, 156, 157, 158, 159, 160, 161, 162, 163, 164, 165, 166, 167, 168, 169, 170, 171, 172, 173, 174, 175, 176, 177, 178, 179, 180, 181, 182, 183, 184, 185, 186, 187, 188, 189, 190, 191, 192, 193, 194, 195, 196, 197, 198, 199, 200, 201, 202, 203, 204, 205, 206, 207, 208, 209, 210, 211, 212, 213, 214, 215, 216, 217, 218, 219, 220, 221, 222, 223, 224, 225, 226, 227, 228, 229, 230, 231, 232, 233, 234, 235, 236, 237, 238, 239, 240, 241, 242, 243, 244, 11, 245, 246, 247, 248, 249, 250, 251, 252, 253, 254, 255, 256, 257, 258, 259, 260, 261, 262, 317, 318, 319, 320, 321, 322, 315, 316, 323, 324, 325, 326, 327, 328, 329, 330, 331, 332, 333, 334, 335, 336, 337, 338, 339, 340, 341, 342, 343, 344, 345, 346, 347, 348, 349, 350, 351, 352, 353, 354, 355, 356, 357, 358, 359, 360, 361, 362, 363, 364, 365] rfl (by decide +kernel)
set_option maxRecDepth 20000 in
theorem gX11_inverse_X6_run : GoodIn wsX11_inverse (wsV RX11 238 RX6 yX6_run wsX6_run) := goodIn_app (goodIn_of _ (by decide +kernel)) ggX11_inverse_X6_run
set_option maxRecDepth 20000 in
theorem ggX11_inverse_X9_begin : GoodIn wsX11_inverse wsX9_begin := goodIn_r _ [267, 268, 269, 270, 43, 44, 45, 46, 47, 312, 313, 314, 315, 316] (by decide +kernel) (by decide +kernel)
set_option maxRecDepth 20000 in
theorem gX11_inverse_X9_begin : GoodIn wsX11_inverse (wsV RX11 249 RX9 yX9_begin wsX9_begin) := goodIn_app (goodIn_of _ (by decide +kernel)) ggX11_inverse_X9_begin
set_option maxRecDepth 20000 in
theorem ggX11_inverse_X9_advance : GoodIn wsX11_inverse wsX9_advance := goodIn_r _ [274, 268, 275, 276, 277, 278, 279, 266, 280, 281, 282, 269, 283, 284, 285, 56, 286, 58, 59, 287, 54, 55, 57, 60, 61, 288, 80, 81, 45, 82, 47, 83, 312, 313, 314, 315, 316, 338, 339, 340, 341, 342, 343, 344, 345, 346, 347, 348, 349, 350, 351] rfl (by decide +kernel)
set_option maxRecDepth 20000 in
theorem gX11_inverse_X9_advance : GoodIn wsX11_inverse (wsV RX11 251 RX9 yX9_advance wsX9_advance) := goodIn_app (goodIn_of _ (by decide +kernel)) ggX11_inverse_X9_advance
set_option maxRecDepth 20000 in
theorem ggX11_inverse_X10_take : GoodIn wsX11_inverse wsX10_take := goodIn_r _ [203, 47, 83, 204, 31, 32, 33, 315, 316] (by decide +kernel) (by decide +kernel)
set_option maxRecDepth 20000 in
theorem gX11_inverse_X10_take : GoodIn wsX11_inverse (wsV RX11 129 RX10 yX10_take wsX10_take) := goodIn_app (goodIn_of _ (by decide +kernel)) ggX11_inverse_X10_take
set_option maxRecDepth 20000 in
theorem ggX11_inverse_X11_putBehind : GoodIn wsX11_inverse wsX11_putBehind := goodIn_r _ [293, 5, 1, 294, 247, 248, 45, 249, 47, 83, 23, 24, 25, 26, 27, 28, 29, 30, 31, 32, 33, 34, 35, 36, 37, 38, 39, 40, 41, 42, 43, 44, 46, 48, 49, 50, 51, 52, 53, 54, 55, 56, 57, 58, 59, 60, 61, 62, 63, 64, 65, 66, 67, 68, 69, 70, 71, 72, 73, 74, 75, 76, 77, 78, 79, 80, 81, 82, 84, 85, 86, 87, 88, 89, 90, 91, 92, 93, 94, 95, 96, 97, 98, 99, 100, 101, 102, 103, 104, 105, 106, 107, 108, 109, 110, 111, 112, 113, 114, 115, 116, 117, 118, 119, 120, 121, 122, 123, 124, 125, 126, 127, 128, 129, 130, 131, 132, 133, 134, 135, 136, 137, 138, 139, 140, 141, 142, 143, 144, 145, 146, 147, 148, 149, 150, 151, 152, 153, 154, 155, 156, 157, 158, 159, 160, 161, 162, 163, 164, 165, 166, 167, 168, 169, 170, 171, 172, 173, 174, 175, 176, 177, 178, 179, 180, 181, 182, 183, 184, 185, 186, 187, 188, 189, 190, 191, 192, 193, 194, 195, 196, 197, 198, 199, 200, 201, 202, 203, 204, 205, 206, 207, 208, 209, 210, 211, 212, 213, 214, 215, 216, 217, 218, 219, 220, 221, 222, 223, 224, 225, 226, 227, 228, 229, 230, 231, 232, 233, 234, 235, 236, 237, 238, 239, 240, 241, 242, 243, 244, 11, 245, 246, 250, 251, 252, 253, 254, 255, 256, 257, 258, 259, 260, 261, 262, 295, 296, 297, 298, 299, 300, 301, 302, 303, 304, 305, 306, 307, 308, 309, 310, 311, 315, 316, 317, 318, 319, 320, 321, 322, 323, 324, 325, 326, 327, 328, 329, 330, 331, 332, 333, 334, 335, 336, 337, 338, 339, 340, 341, 342, 343, 344, 345, 346, 347, 348, 349, 350, 351, 352, 353, 354, 355, 356, 357, 358, 359, 360, 361, 362, 363, 364, 365] rfl (by decide +kernel)
set_option maxRecDepth 20000 in
theorem gX11_inverse_X11_putBehind : GoodIn wsX11_inverse (wsV RX11 246 RX11 yX11_putBehind wsX11_putBehind) := goodIn_app (goodIn_of _ (by decide +kernel)) ggX11_inverse_X11_putBehind
theorem dX11_inverse_0 : decode cX11_inverse 0 = .ok (.aload_n 0, 1) := by decide +kernel
theorem dX11_inverse_1 : decode cX11_inverse 1 = .ok (.iload_n 1, 1) := by decide +kernel
theorem dX11_inverse_2 : decode cX11_inverse 2 = .ok (.invokevirtual 126, 3) := by decide +kernel
theorem dX11_inverse_5 : decode cX11_inverse 5 = .ok (.ifCond .eq 11, 3) := by decide +kernel
theorem dX11_inverse_8 : decode cX11_inverse 8 = .ok (.aload_n 0, 1) := by decide +kernel
theorem dX11_inverse_9 : decode cX11_inverse 9 = .ok (.iload_n 2, 1) := by decide +kernel
theorem dX11_inverse_10 : decode cX11_inverse 10 = .ok (.invokevirtual 126, 3) := by decide +kernel
theorem dX11_inverse_13 : decode cX11_inverse 13 = .ok (.ifCond .ne 5, 3) := by decide +kernel
theorem dX11_inverse_16 : decode cX11_inverse 16 = .ok (.iconst (-1), 1) := by decide +kernel
theorem dX11_inverse_17 : decode cX11_inverse 17 = .ok (.ireturn, 1) := by decide +kernel
theorem dX11_inverse_18 : decode cX11_inverse 18 = .ok (.aload_n 0, 1) := by decide +kernel
theorem dX11_inverse_19 : decode cX11_inverse 19 = .ok (.invokevirtual 204, 3) := by decide +kernel
theorem dX11_inverse_22 : decode cX11_inverse 22 = .ok (.ifCond .ne 6, 3) := by decide +kernel
theorem dX11_inverse_25 : decode cX11_inverse 25 = .ok (.bipush (-3), 2) := by decide +kernel
theorem dX11_inverse_27 : decode cX11_inverse 27 = .ok (.ireturn, 1) := by decide +kernel
theorem dX11_inverse_28 : decode cX11_inverse 28 = .ok (.aload_n 0, 1) := by decide +kernel
theorem dX11_inverse_29 : decode cX11_inverse 29 = .ok (.getfield 62, 3) := by decide +kernel
theorem dX11_inverse_32 : decode cX11_inverse 32 = .ok (.aload_n 0, 1) := by decide +kernel
theorem dX11_inverse_33 : decode cX11_inverse 33 = .ok (.getfield 25, 3) := by decide +kernel
theorem dX11_inverse_36 : decode cX11_inverse 36 = .ok (.iload_n 1, 1) := by decide +kernel
theorem dX11_inverse_37 : decode cX11_inverse 37 = .ok (.aaload, 1) := by decide +kernel
theorem dX11_inverse_38 : decode cX11_inverse 38 = .ok (.aload_n 0, 1) := by decide +kernel
theorem dX11_inverse_39 : decode cX11_inverse 39 = .ok (.getfield 66, 3) := by decide +kernel
theorem dX11_inverse_42 : decode cX11_inverse 42 = .ok (.invokevirtual 238, 3) := by decide +kernel
theorem dX11_inverse_45 : decode cX11_inverse 45 = .ok (.ifCond .ne 6, 3) := by decide +kernel
theorem dX11_inverse_48 : decode cX11_inverse 48 = .ok (.bipush (-4), 2) := by decide +kernel
theorem dX11_inverse_50 : decode cX11_inverse 50 = .ok (.ireturn, 1) := by decide +kernel
theorem dX11_inverse_51 : decode cX11_inverse 51 = .ok (.aload_n 0, 1) := by decide +kernel
theorem dX11_inverse_52 : decode cX11_inverse 52 = .ok (.getfield 89, 3) := by decide +kernel
theorem dX11_inverse_55 : decode cX11_inverse 55 = .ok (.invokevirtual 249, 3) := by decide +kernel
theorem dX11_inverse_58 : decode cX11_inverse 58 = .ok (.iconst 0, 1) := by decide +kernel
theorem dX11_inverse_59 : decode cX11_inverse 59 = .ok (.istore_n 3, 1) := by decide +kernel
theorem dX11_inverse_60 : decode cX11_inverse 60 = .ok (.iload_n 3, 1) := by decide +kernel
theorem dX11_inverse_61 : decode cX11_inverse 61 = .ok (.sipush 2000, 3) := by decide +kernel
theorem dX11_inverse_64 : decode cX11_inverse 64 = .ok (.if_icmp .ge 91, 3) := by decide +kernel
theorem dX11_inverse_67 : decode cX11_inverse 67 = .ok (.iload_n 3, 1) := by decide +kernel
theorem dX11_inverse_68 : decode cX11_inverse 68 = .ok (.ifCond .le 16, 3) := by decide +kernel
theorem dX11_inverse_71 : decode cX11_inverse 71 = .ok (.aload_n 0, 1) := by decide +kernel
theorem dX11_inverse_72 : decode cX11_inverse 72 = .ok (.getfield 89, 3) := by decide +kernel
theorem dX11_inverse_75 : decode cX11_inverse 75 = .ok (.invokevirtual 251, 3) := by decide +kernel
theorem dX11_inverse_78 : decode cX11_inverse 78 = .ok (.ifCond .ne 6, 3) := by decide +kernel
theorem dX11_inverse_81 : decode cX11_inverse 81 = .ok (.bipush (-9), 2) := by decide +kernel
theorem dX11_inverse_83 : decode cX11_inverse 83 = .ok (.ireturn, 1) := by decide +kernel
theorem dX11_inverse_84 : decode cX11_inverse 84 = .ok (.aload_n 0, 1) := by decide +kernel
theorem dX11_inverse_85 : decode cX11_inverse 85 = .ok (.getfield 72, 3) := by decide +kernel
theorem dX11_inverse_88 : decode cX11_inverse 88 = .ok (.aload_n 0, 1) := by decide +kernel
theorem dX11_inverse_89 : decode cX11_inverse 89 = .ok (.getfield 66, 3) := by decide +kernel
theorem dX11_inverse_92 : decode cX11_inverse 92 = .ok (.invokevirtual 129, 3) := by decide +kernel
theorem dX11_inverse_95 : decode cX11_inverse 95 = .ok (.aload_n 0, 1) := by decide +kernel
theorem dX11_inverse_96 : decode cX11_inverse 96 = .ok (.aload_n 0, 1) := by decide +kernel
theorem dX11_inverse_97 : decode cX11_inverse 97 = .ok (.getfield 89, 3) := by decide +kernel
theorem dX11_inverse_100 : decode cX11_inverse 100 = .ok (.getfield 254, 3) := by decide +kernel
theorem dX11_inverse_103 : decode cX11_inverse 103 = .ok (.invokevirtual 246, 3) := by decide +kernel
theorem dX11_inverse_106 : decode cX11_inverse 106 = .ok (.ifCond .ne 6, 3) := by decide +kernel
theorem dX11_inverse_109 : decode cX11_inverse 109 = .ok (.bipush (-4), 2) := by decide +kernel
theorem dX11_inverse_111 : decode cX11_inverse 111 = .ok (.ireturn, 1) := by decide +kernel
theorem dX11_inverse_112 : decode cX11_inverse 112 = .ok (.aload_n 0, 1) := by decide +kernel
theorem dX11_inverse_113 : decode cX11_inverse 113 = .ok (.getfield 72, 3) := by decide +kernel
theorem dX11_inverse_116 : decode cX11_inverse 116 = .ok (.getfield 123, 3) := by decide +kernel
theorem dX11_inverse_119 : decode cX11_inverse 119 = .ok (.ifCond .ne 30, 3) := by decide +kernel
theorem dX11_inverse_122 : decode cX11_inverse 122 = .ok (.aload_n 0, 1) := by decide +kernel
theorem dX11_inverse_123 : decode cX11_inverse 123 = .ok (.getfield 25, 3) := by decide +kernel
theorem dX11_inverse_126 : decode cX11_inverse 126 = .ok (.iload_n 2, 1) := by decide +kernel
theorem dX11_inverse_127 : decode cX11_inverse 127 = .ok (.aaload, 1) := by decide +kernel
theorem dX11_inverse_128 : decode cX11_inverse 128 = .ok (.aload_n 0, 1) := by decide +kernel
theorem dX11_inverse_129 : decode cX11_inverse 129 = .ok (.getfield 89, 3) := by decide +kernel
theorem dX11_inverse_132 : decode cX11_inverse 132 = .ok (.getfield 254, 3) := by decide +kernel
theorem dX11_inverse_135 : decode cX11_inverse 135 = .ok (.invokevirtual 129, 3) := by decide +kernel
theorem dX11_inverse_138 : decode cX11_inverse 138 = .ok (.aload_n 0, 1) := by decide +kernel
theorem dX11_inverse_139 : decode cX11_inverse 139 = .ok (.getfield 89, 3) := by decide +kernel
theorem dX11_inverse_142 : decode cX11_inverse 142 = .ok (.getfield 254, 3) := by decide +kernel
theorem dX11_inverse_145 : decode cX11_inverse 145 = .ok (.getfield 123, 3) := by decide +kernel
theorem dX11_inverse_148 : decode cX11_inverse 148 = .ok (.ireturn, 1) := by decide +kernel
theorem dX11_inverse_149 : decode cX11_inverse 149 = .ok (.iinc 3 1, 3) := by decide +kernel
theorem dX11_inverse_152 : decode cX11_inverse 152 = .ok (.goto (-92), 3) := by decide +kernel
theorem dX11_inverse_155 : decode cX11_inverse 155 = .ok (.bipush (-9), 2) := by decide +kernel
theorem dX11_inverse_157 : decode cX11_inverse 157 = .ok (.ireturn, 1) := by decide +kernel
theorem dX11_isLetter_0 : decode cX11_isLetter 0 = .ok (.iload_n 1, 1) := by decide +kernel
theorem dX11_isLetter_1 : decode cX11_isLetter 1 = .ok (.ifCond .lt 18, 3) := by decide +kernel
theorem dX11_isLetter_4 : decode cX11_isLetter 4 = .ok (.iload_n 1, 1) := by decide +kernel
theorem dX11_isLetter_5 : decode cX11_isLetter 5 = .ok (.aload_n 0, 1) := by decide +kernel
theorem dX11_isLetter_6 : decode cX11_isLetter 6 = .ok (.getfield 14, 3) := by decide +kernel
theorem dX11_isLetter_9 : decode cX11_isLetter 9 = .ok (.getfield 100, 3) := by decide +kernel
theorem dX11_isLetter_12 : decode cX11_isLetter 12 = .ok (.if_icmp .ge 7, 3) := by decide +kernel
theorem dX11_isLetter_15 : decode cX11_isLetter 15 = .ok (.iconst 1, 1) := by decide +kernel
theorem dX11_isLetter_16 : decode cX11_isLetter 16 = .ok (.goto 4, 3) := by decide +kernel
theorem dX11_isLetter_19 : decode cX11_isLetter 19 = .ok (.iconst 0, 1) := by decide +kernel
theorem dX11_isLetter_20 : decode cX11_isLetter 20 = .ok (.ireturn, 1) := by decide +kernel
set_option maxRecDepth 20000 in
theorem ggX11_isProved_X11_isSeen : GoodIn wsX11_isProved wsX11_isSeen := goodIn_r _ [6, 7, 8, 9, 10, 11, 12, 13, 14, 15, 16, 17, 18, 19, 20, 21, 22, 23, 24] (by decide +kernel) (by decide +kernel)
set_option maxRecDepth 20000 in
theorem gX11_isProved_X11_isSeen : GoodIn wsX11_isProved (wsV RX11 178 RX11 yX11_isSeen wsX11_isSeen) := goodIn_app (goodIn_of _ (by decide +kernel)) ggX11_isProved_X11_isSeen
theorem dX11_isProved_0 : decode cX11_isProved 0 = .ok (.aload_n 0, 1) := by decide +kernel
theorem dX11_isProved_1 : decode cX11_isProved 1 = .ok (.invokevirtual 178, 3) := by decide +kernel
theorem dX11_isProved_4 : decode cX11_isProved 4 = .ok (.ifCond .eq 14, 3) := by decide +kernel
theorem dX11_isProved_7 : decode cX11_isProved 7 = .ok (.aload_n 0, 1) := by decide +kernel
theorem dX11_isProved_8 : decode cX11_isProved 8 = .ok (.getfield 165, 3) := by decide +kernel
theorem dX11_isProved_11 : decode cX11_isProved 11 = .ok (.ifCond .eq 7, 3) := by decide +kernel
theorem dX11_isProved_14 : decode cX11_isProved 14 = .ok (.iconst 1, 1) := by decide +kernel
theorem dX11_isProved_15 : decode cX11_isProved 15 = .ok (.goto 4, 3) := by decide +kernel
theorem dX11_isProved_18 : decode cX11_isProved 18 = .ok (.iconst 0, 1) := by decide +kernel
theorem dX11_isProved_19 : decode cX11_isProved 19 = .ok (.ireturn, 1) := by decide +kernel
theorem dX11_isSeen_0 : decode cX11_isSeen 0 = .ok (.aload_n 0, 1) := by decide +kernel
theorem dX11_isSeen_1 : decode cX11_isSeen 1 = .ok (.getfield 172, 3) := by decide +kernel
theorem dX11_isSeen_4 : decode cX11_isSeen 4 = .ok (.ifCond .le 7, 3) := by decide +kernel
theorem dX11_isSeen_7 : decode cX11_isSeen 7 = .ok (.iconst 1, 1) := by decide +kernel
theorem dX11_isSeen_8 : decode cX11_isSeen 8 = .ok (.goto 4, 3) := by decide +kernel
theorem dX11_isSeen_11 : decode cX11_isSeen 11 = .ok (.iconst 0, 1) := by decide +kernel
theorem dX11_isSeen_12 : decode cX11_isSeen 12 = .ok (.ireturn, 1) := by decide +kernel
theorem dX11_isSlot_0 : decode cX11_isSlot 0 = .ok (.iload_n 1, 1) := by decide +kernel
theorem dX11_isSlot_1 : decode cX11_isSlot 1 = .ok (.ifCond .lt 13, 3) := by decide +kernel
theorem dX11_isSlot_4 : decode cX11_isSlot 4 = .ok (.iload_n 1, 1) := by decide +kernel
theorem dX11_isSlot_5 : decode cX11_isSlot 5 = .ok (.bipush 8, 2) := by decide +kernel
theorem dX11_isSlot_7 : decode cX11_isSlot 7 = .ok (.if_icmp .ge 7, 3) := by decide +kernel
theorem dX11_isSlot_10 : decode cX11_isSlot 10 = .ok (.iconst 1, 1) := by decide +kernel
theorem dX11_isSlot_11 : decode cX11_isSlot 11 = .ok (.goto 4, 3) := by decide +kernel
theorem dX11_isSlot_14 : decode cX11_isSlot 14 = .ok (.iconst 0, 1) := by decide +kernel
theorem dX11_isSlot_15 : decode cX11_isSlot 15 = .ok (.ireturn, 1) := by decide +kernel
set_option maxRecDepth 20000 in
theorem ggX11_law_X11_isSlot : GoodIn wsX11_law wsX11_isSlot := goodIn_r _ [9] (by decide +kernel) (by decide +kernel)
set_option maxRecDepth 20000 in
theorem gX11_law_X11_isSlot : GoodIn wsX11_law (wsV RX11 126 RX11 yX11_isSlot wsX11_isSlot) := goodIn_app (goodIn_of _ (by decide +kernel)) ggX11_law_X11_isSlot
set_option maxRecDepth 20000 in
theorem ggX11_law_X10_take : GoodIn wsX11_law wsX10_take := goodIn_r _ [14, 15, 16, 17, 18, 19, 20, 44, 45] (by decide +kernel) (by decide +kernel)
set_option maxRecDepth 20000 in
theorem gX11_law_X10_take : GoodIn wsX11_law (wsV RX11 129 RX10 yX10_take wsX10_take) := goodIn_app (goodIn_of _ (by decide +kernel)) ggX11_law_X10_take
set_option maxRecDepth 20000 in
theorem ggX11_law_X11_forget : GoodIn wsX11_law wsX11_forget := goodIn_r _ [24, 25, 26, 27, 28, 29, 30, 31, 32, 33, 34, 35, 36, 37, 38, 39, 40, 41, 42, 43] (by decide +kernel) (by decide +kernel)
set_option maxRecDepth 20000 in
theorem gX11_law_X11_forget : GoodIn wsX11_law (wsV RX11 113 RX11 yX11_forget wsX11_forget) := goodIn_app (goodIn_of _ (by decide +kernel)) ggX11_law_X11_forget
theorem dX11_law_0 : decode cX11_law 0 = .ok (.aload_n 0, 1) := by decide +kernel
theorem dX11_law_1 : decode cX11_law 1 = .ok (.iload_n 1, 1) := by decide +kernel
theorem dX11_law_2 : decode cX11_law 2 = .ok (.invokevirtual 126, 3) := by decide +kernel
theorem dX11_law_5 : decode cX11_law 5 = .ok (.ifCond .eq 11, 3) := by decide +kernel
theorem dX11_law_8 : decode cX11_law 8 = .ok (.aload_n 0, 1) := by decide +kernel
theorem dX11_law_9 : decode cX11_law 9 = .ok (.iload_n 2, 1) := by decide +kernel
theorem dX11_law_10 : decode cX11_law 10 = .ok (.invokevirtual 126, 3) := by decide +kernel
theorem dX11_law_13 : decode cX11_law 13 = .ok (.ifCond .ne 5, 3) := by decide +kernel
theorem dX11_law_16 : decode cX11_law 16 = .ok (.iconst (-1), 1) := by decide +kernel
theorem dX11_law_17 : decode cX11_law 17 = .ok (.ireturn, 1) := by decide +kernel
theorem dX11_law_18 : decode cX11_law 18 = .ok (.aload_n 0, 1) := by decide +kernel
theorem dX11_law_19 : decode cX11_law 19 = .ok (.getfield 25, 3) := by decide +kernel
theorem dX11_law_22 : decode cX11_law 22 = .ok (.iload_n 1, 1) := by decide +kernel
theorem dX11_law_23 : decode cX11_law 23 = .ok (.aaload, 1) := by decide +kernel
theorem dX11_law_24 : decode cX11_law 24 = .ok (.getfield 123, 3) := by decide +kernel
theorem dX11_law_27 : decode cX11_law 27 = .ok (.bipush 12, 2) := by decide +kernel
theorem dX11_law_29 : decode cX11_law 29 = .ok (.if_icmp .gt 17, 3) := by decide +kernel
theorem dX11_law_32 : decode cX11_law 32 = .ok (.aload_n 0, 1) := by decide +kernel
theorem dX11_law_33 : decode cX11_law 33 = .ok (.getfield 25, 3) := by decide +kernel
theorem dX11_law_36 : decode cX11_law 36 = .ok (.iload_n 2, 1) := by decide +kernel
theorem dX11_law_37 : decode cX11_law 37 = .ok (.aaload, 1) := by decide +kernel
theorem dX11_law_38 : decode cX11_law 38 = .ok (.getfield 123, 3) := by decide +kernel
theorem dX11_law_41 : decode cX11_law 41 = .ok (.bipush 12, 2) := by decide +kernel
theorem dX11_law_43 : decode cX11_law 43 = .ok (.if_icmp .le 6, 3) := by decide +kernel
theorem dX11_law_46 : decode cX11_law 46 = .ok (.bipush (-3), 2) := by decide +kernel
theorem dX11_law_48 : decode cX11_law 48 = .ok (.ireturn, 1) := by decide +kernel
theorem dX11_law_49 : decode cX11_law 49 = .ok (.aload_n 0, 1) := by decide +kernel
theorem dX11_law_50 : decode cX11_law 50 = .ok (.getfield 110, 3) := by decide +kernel
theorem dX11_law_53 : decode cX11_law 53 = .ok (.bipush 8, 2) := by decide +kernel
theorem dX11_law_55 : decode cX11_law 55 = .ok (.if_icmp .lt 6, 3) := by decide +kernel
theorem dX11_law_58 : decode cX11_law 58 = .ok (.bipush (-4), 2) := by decide +kernel
theorem dX11_law_60 : decode cX11_law 60 = .ok (.ireturn, 1) := by decide +kernel
theorem dX11_law_61 : decode cX11_law 61 = .ok (.aload_n 0, 1) := by decide +kernel
theorem dX11_law_62 : decode cX11_law 62 = .ok (.getfield 29, 3) := by decide +kernel
theorem dX11_law_65 : decode cX11_law 65 = .ok (.iconst 2, 1) := by decide +kernel
theorem dX11_law_66 : decode cX11_law 66 = .ok (.aload_n 0, 1) := by decide +kernel
theorem dX11_law_67 : decode cX11_law 67 = .ok (.getfield 110, 3) := by decide +kernel
theorem dX11_law_70 : decode cX11_law 70 = .ok (.imul, 1) := by decide +kernel
theorem dX11_law_71 : decode cX11_law 71 = .ok (.aaload, 1) := by decide +kernel
theorem dX11_law_72 : decode cX11_law 72 = .ok (.aload_n 0, 1) := by decide +kernel
theorem dX11_law_73 : decode cX11_law 73 = .ok (.getfield 25, 3) := by decide +kernel
theorem dX11_law_76 : decode cX11_law 76 = .ok (.iload_n 1, 1) := by decide +kernel
theorem dX11_law_77 : decode cX11_law 77 = .ok (.aaload, 1) := by decide +kernel
theorem dX11_law_78 : decode cX11_law 78 = .ok (.invokevirtual 129, 3) := by decide +kernel
theorem dX11_law_81 : decode cX11_law 81 = .ok (.aload_n 0, 1) := by decide +kernel
theorem dX11_law_82 : decode cX11_law 82 = .ok (.getfield 29, 3) := by decide +kernel
theorem dX11_law_85 : decode cX11_law 85 = .ok (.iconst 2, 1) := by decide +kernel
theorem dX11_law_86 : decode cX11_law 86 = .ok (.aload_n 0, 1) := by decide +kernel
theorem dX11_law_87 : decode cX11_law 87 = .ok (.getfield 110, 3) := by decide +kernel
theorem dX11_law_90 : decode cX11_law 90 = .ok (.imul, 1) := by decide +kernel
theorem dX11_law_91 : decode cX11_law 91 = .ok (.iconst 1, 1) := by decide +kernel
theorem dX11_law_92 : decode cX11_law 92 = .ok (.iadd, 1) := by decide +kernel
theorem dX11_law_93 : decode cX11_law 93 = .ok (.aaload, 1) := by decide +kernel
theorem dX11_law_94 : decode cX11_law 94 = .ok (.aload_n 0, 1) := by decide +kernel
theorem dX11_law_95 : decode cX11_law 95 = .ok (.getfield 25, 3) := by decide +kernel
theorem dX11_law_98 : decode cX11_law 98 = .ok (.iload_n 2, 1) := by decide +kernel
theorem dX11_law_99 : decode cX11_law 99 = .ok (.aaload, 1) := by decide +kernel
theorem dX11_law_100 : decode cX11_law 100 = .ok (.invokevirtual 129, 3) := by decide +kernel
theorem dX11_law_103 : decode cX11_law 103 = .ok (.aload_n 0, 1) := by decide +kernel
theorem dX11_law_104 : decode cX11_law 104 = .ok (.dup, 1) := by decide +kernel
theorem dX11_law_105 : decode cX11_law 105 = .ok (.getfield 110, 3) := by decide +kernel
theorem dX11_law_108 : decode cX11_law 108 = .ok (.iconst 1, 1) := by decide +kernel
theorem dX11_law_109 : decode cX11_law 109 = .ok (.iadd, 1) := by decide +kernel
theorem dX11_law_110 : decode cX11_law 110 = .ok (.putfield 110, 3) := by decide +kernel
theorem dX11_law_113 : decode cX11_law 113 = .ok (.aload_n 0, 1) := by decide +kernel
theorem dX11_law_114 : decode cX11_law 114 = .ok (.invokevirtual 113, 3) := by decide +kernel
theorem dX11_law_117 : decode cX11_law 117 = .ok (.aload_n 0, 1) := by decide +kernel
theorem dX11_law_118 : decode cX11_law 118 = .ok (.getfield 110, 3) := by decide +kernel
theorem dX11_law_121 : decode cX11_law 121 = .ok (.ireturn, 1) := by decide +kernel
set_option maxRecDepth 20000 in
theorem ggX11_leads_X11_isProved : GoodIn wsX11_leads wsX11_isProved := goodIn_r _ [6, 7, 8, 9, 10, 5, 11, 12, 32, 33, 34, 35, 36, 37, 38, 39, 40, 41, 42, 43, 44, 45, 46, 47, 48] (by decide +kernel) (by decide +kernel)
set_option maxRecDepth 20000 in
theorem gX11_leads_X11_isProved : GoodIn wsX11_leads (wsV RX11 204 RX11 yX11_isProved wsX11_isProved) := goodIn_app (goodIn_of _ (by decide +kernel)) ggX11_leads_X11_isProved
set_option maxRecDepth 20000 in
theorem ggX11_leads_X3_has : GoodIn wsX11_leads wsX3_has := goodIn_r _ [17, 18, 49, 50, 51, 52, 53, 54, 55, 56, 57, 58] (by decide +kernel) (by decide +kernel)
set_option maxRecDepth 20000 in
theorem gX11_leads_X3_has : GoodIn wsX11_leads (wsV RX11 208 RX3 yX3_has wsX3_has) := goodIn_app (goodIn_of _ (by decide +kernel)) ggX11_leads_X3_has
set_option maxRecDepth 20000 in
theorem ggX11_leads_X11_isLetter : GoodIn wsX11_leads wsX11_isLetter := goodIn_r _ [22, 23, 24, 32, 33, 34, 35, 36, 37, 38, 39, 40, 41, 42, 43, 44, 45, 46, 47, 48, 59, 60, 61, 62] (by decide +kernel) (by decide +kernel)
set_option maxRecDepth 20000 in
theorem gX11_leads_X11_isLetter : GoodIn wsX11_leads (wsV RX11 116 RX11 yX11_isLetter wsX11_isLetter) := goodIn_app (goodIn_of _ (by decide +kernel)) ggX11_leads_X11_isLetter
set_option maxRecDepth 20000 in
theorem ggX11_leads_X3_step : GoodIn wsX11_leads wsX3_step := goodIn_r _ [28, 29, 30, 18, 31, 49, 50, 51, 52, 53, 54, 55, 56, 57, 58, 59, 60, 61, 62] (by decide +kernel) (by decide +kernel)
set_option maxRecDepth 20000 in
theorem gX11_leads_X3_step : GoodIn wsX11_leads (wsV RX11 209 RX3 yX3_step wsX3_step) := goodIn_app (goodIn_of _ (by decide +kernel)) ggX11_leads_X3_step
theorem dX11_leads_0 : decode cX11_leads 0 = .ok (.aload_n 0, 1) := by decide +kernel
theorem dX11_leads_1 : decode cX11_leads 1 = .ok (.invokevirtual 204, 3) := by decide +kernel
theorem dX11_leads_4 : decode cX11_leads 4 = .ok (.ifCond .ne 6, 3) := by decide +kernel
theorem dX11_leads_7 : decode cX11_leads 7 = .ok (.bipush (-3), 2) := by decide +kernel
theorem dX11_leads_9 : decode cX11_leads 9 = .ok (.ireturn, 1) := by decide +kernel
theorem dX11_leads_10 : decode cX11_leads 10 = .ok (.aload_n 0, 1) := by decide +kernel
theorem dX11_leads_11 : decode cX11_leads 11 = .ok (.getfield 53, 3) := by decide +kernel
theorem dX11_leads_14 : decode cX11_leads 14 = .ok (.iload_n 1, 1) := by decide +kernel
theorem dX11_leads_15 : decode cX11_leads 15 = .ok (.invokevirtual 208, 3) := by decide +kernel
theorem dX11_leads_18 : decode cX11_leads 18 = .ok (.ifCond .eq 11, 3) := by decide +kernel
theorem dX11_leads_21 : decode cX11_leads 21 = .ok (.aload_n 0, 1) := by decide +kernel
theorem dX11_leads_22 : decode cX11_leads 22 = .ok (.iload_n 2, 1) := by decide +kernel
theorem dX11_leads_23 : decode cX11_leads 23 = .ok (.invokevirtual 116, 3) := by decide +kernel
theorem dX11_leads_26 : decode cX11_leads 26 = .ok (.ifCond .ne 5, 3) := by decide +kernel
theorem dX11_leads_29 : decode cX11_leads 29 = .ok (.iconst (-1), 1) := by decide +kernel
theorem dX11_leads_30 : decode cX11_leads 30 = .ok (.ireturn, 1) := by decide +kernel
theorem dX11_leads_31 : decode cX11_leads 31 = .ok (.aload_n 0, 1) := by decide +kernel
theorem dX11_leads_32 : decode cX11_leads 32 = .ok (.getfield 53, 3) := by decide +kernel
theorem dX11_leads_35 : decode cX11_leads 35 = .ok (.iload_n 1, 1) := by decide +kernel
theorem dX11_leads_36 : decode cX11_leads 36 = .ok (.iload_n 2, 1) := by decide +kernel
theorem dX11_leads_37 : decode cX11_leads 37 = .ok (.invokevirtual 209, 3) := by decide +kernel
theorem dX11_leads_40 : decode cX11_leads 40 = .ok (.istore_n 3, 1) := by decide +kernel
theorem dX11_leads_41 : decode cX11_leads 41 = .ok (.iload_n 3, 1) := by decide +kernel
theorem dX11_leads_42 : decode cX11_leads 42 = .ok (.ifCond .lt 7, 3) := by decide +kernel
theorem dX11_leads_45 : decode cX11_leads 45 = .ok (.iload_n 3, 1) := by decide +kernel
theorem dX11_leads_46 : decode cX11_leads 46 = .ok (.goto 5, 3) := by decide +kernel
theorem dX11_leads_49 : decode cX11_leads 49 = .ok (.bipush (-9), 2) := by decide +kernel
theorem dX11_leads_51 : decode cX11_leads 51 = .ok (.ireturn, 1) := by decide +kernel
set_option maxRecDepth 20000 in
theorem ggX11_least_X11_isSeen : GoodIn wsX11_least wsX11_isSeen := goodIn_r _ [7, 8, 9, 10, 11, 12, 13, 14, 15, 16, 17, 18, 19, 20, 21, 22, 23, 24, 25] (by decide +kernel) (by decide +kernel)
set_option maxRecDepth 20000 in
theorem gX11_least_X11_isSeen : GoodIn wsX11_least (wsV RX11 178 RX11 yX11_isSeen wsX11_isSeen) := goodIn_app (goodIn_of _ (by decide +kernel)) ggX11_least_X11_isSeen
theorem dX11_least_0 : decode cX11_least 0 = .ok (.aload_n 0, 1) := by decide +kernel
theorem dX11_least_1 : decode cX11_least 1 = .ok (.invokevirtual 178, 3) := by decide +kernel
theorem dX11_least_4 : decode cX11_least 4 = .ok (.ifCond .eq 13, 3) := by decide +kernel
theorem dX11_least_7 : decode cX11_least 7 = .ok (.aload_n 0, 1) := by decide +kernel
theorem dX11_least_8 : decode cX11_least 8 = .ok (.getfield 35, 3) := by decide +kernel
theorem dX11_least_11 : decode cX11_least 11 = .ok (.getfield 182, 3) := by decide +kernel
theorem dX11_least_14 : decode cX11_least 14 = .ok (.goto 5, 3) := by decide +kernel
theorem dX11_least_17 : decode cX11_least 17 = .ok (.bipush (-3), 2) := by decide +kernel
theorem dX11_least_19 : decode cX11_least 19 = .ok (.ireturn, 1) := by decide +kernel
set_option maxRecDepth 20000 in
theorem ggX11_length_X11_isSlot : GoodIn wsX11_length wsX11_isSlot := goodIn_r _ [7] (by decide +kernel) (by decide +kernel)
set_option maxRecDepth 20000 in
theorem gX11_length_X11_isSlot : GoodIn wsX11_length (wsV RX11 126 RX11 yX11_isSlot wsX11_isSlot) := goodIn_app (goodIn_of _ (by decide +kernel)) ggX11_length_X11_isSlot
theorem dX11_length_0 : decode cX11_length 0 = .ok (.aload_n 0, 1) := by decide +kernel
theorem dX11_length_1 : decode cX11_length 1 = .ok (.iload_n 1, 1) := by decide +kernel
theorem dX11_length_2 : decode cX11_length 2 = .ok (.invokevirtual 126, 3) := by decide +kernel
theorem dX11_length_5 : decode cX11_length 5 = .ok (.ifCond .eq 15, 3) := by decide +kernel
theorem dX11_length_8 : decode cX11_length 8 = .ok (.aload_n 0, 1) := by decide +kernel
theorem dX11_length_9 : decode cX11_length 9 = .ok (.getfield 25, 3) := by decide +kernel
theorem dX11_length_12 : decode cX11_length 12 = .ok (.iload_n 1, 1) := by decide +kernel
theorem dX11_length_13 : decode cX11_length 13 = .ok (.aaload, 1) := by decide +kernel
theorem dX11_length_14 : decode cX11_length 14 = .ok (.getfield 123, 3) := by decide +kernel
theorem dX11_length_17 : decode cX11_length 17 = .ok (.goto 4, 3) := by decide +kernel
theorem dX11_length_20 : decode cX11_length 20 = .ok (.iconst (-1), 1) := by decide +kernel
theorem dX11_length_21 : decode cX11_length 21 = .ok (.ireturn, 1) := by decide +kernel
set_option maxRecDepth 20000 in
theorem ggX11_letter_X11_isLetter : GoodIn wsX11_letter wsX11_isLetter := goodIn_r _ [7, 8, 9, 17, 18, 19, 20, 21, 22, 23, 24, 25, 26, 27, 28, 29, 30, 31, 32, 33, 36, 37, 38, 39] (by decide +kernel) (by decide +kernel)
set_option maxRecDepth 20000 in
theorem gX11_letter_X11_isLetter : GoodIn wsX11_letter (wsV RX11 116 RX11 yX11_isLetter wsX11_isLetter) := goodIn_app (goodIn_of _ (by decide +kernel)) ggX11_letter_X11_isLetter
set_option maxRecDepth 20000 in
theorem ggX11_letter_X10_push : GoodIn wsX11_letter wsX10_push := goodIn_r _ [14, 15, 16, 34, 35] (by decide +kernel) (by decide +kernel)
set_option maxRecDepth 20000 in
theorem gX11_letter_X10_push : GoodIn wsX11_letter (wsV RX11 120 RX10 yX10_push wsX10_push) := goodIn_app (goodIn_of _ (by decide +kernel)) ggX11_letter_X10_push
theorem dX11_letter_0 : decode cX11_letter 0 = .ok (.aload_n 0, 1) := by decide +kernel
theorem dX11_letter_1 : decode cX11_letter 1 = .ok (.iload_n 1, 1) := by decide +kernel
theorem dX11_letter_2 : decode cX11_letter 2 = .ok (.invokevirtual 116, 3) := by decide +kernel
theorem dX11_letter_5 : decode cX11_letter 5 = .ok (.ifCond .ne 5, 3) := by decide +kernel
theorem dX11_letter_8 : decode cX11_letter 8 = .ok (.iconst (-1), 1) := by decide +kernel
theorem dX11_letter_9 : decode cX11_letter 9 = .ok (.ireturn, 1) := by decide +kernel
theorem dX11_letter_10 : decode cX11_letter 10 = .ok (.aload_n 0, 1) := by decide +kernel
theorem dX11_letter_11 : decode cX11_letter 11 = .ok (.getfield 21, 3) := by decide +kernel
theorem dX11_letter_14 : decode cX11_letter 14 = .ok (.iload_n 1, 1) := by decide +kernel
theorem dX11_letter_15 : decode cX11_letter 15 = .ok (.invokevirtual 120, 3) := by decide +kernel
theorem dX11_letter_18 : decode cX11_letter 18 = .ok (.ifCond .eq 13, 3) := by decide +kernel
theorem dX11_letter_21 : decode cX11_letter 21 = .ok (.aload_n 0, 1) := by decide +kernel
theorem dX11_letter_22 : decode cX11_letter 22 = .ok (.getfield 21, 3) := by decide +kernel
theorem dX11_letter_25 : decode cX11_letter 25 = .ok (.getfield 123, 3) := by decide +kernel
theorem dX11_letter_28 : decode cX11_letter 28 = .ok (.goto 5, 3) := by decide +kernel
theorem dX11_letter_31 : decode cX11_letter 31 = .ok (.bipush (-4), 2) := by decide +kernel
theorem dX11_letter_33 : decode cX11_letter 33 = .ok (.ireturn, 1) := by decide +kernel
set_option maxRecDepth 20000 in
theorem ggX11_letters_X8_setLetters : GoodIn wsX11_letters wsX8_setLetters := goodIn_r _ [10, 11, 12, 13, 14, 15, 16, 17, 18, 49, 50, 51, 52] (by decide +kernel) (by decide +kernel)
set_option maxRecDepth 20000 in
theorem gX11_letters_X8_setLetters : GoodIn wsX11_letters (wsV RX11 104 RX8 yX8_setLetters wsX8_setLetters) := goodIn_app (goodIn_of _ (by decide +kernel)) ggX11_letters_X8_setLetters
set_option maxRecDepth 20000 in
theorem ggX11_letters_X10_wipe : GoodIn wsX11_letters wsX10_wipe := goodIn_r _ [23, 24, 53, 54] (by decide +kernel) (by decide +kernel)
set_option maxRecDepth 20000 in
theorem gX11_letters_X10_wipe : GoodIn wsX11_letters (wsV RX11 107 RX10 yX10_wipe wsX10_wipe) := goodIn_app (goodIn_of _ (by decide +kernel)) ggX11_letters_X10_wipe
set_option maxRecDepth 20000 in
theorem ggX11_letters_X11_forget : GoodIn wsX11_letters wsX11_forget := goodIn_r _ [29, 30, 31, 32, 33, 34, 35, 36, 37, 38, 39, 40, 41, 42, 43, 44, 45, 46, 47, 48] (by decide +kernel) (by decide +kernel)
set_option maxRecDepth 20000 in
theorem gX11_letters_X11_forget : GoodIn wsX11_letters (wsV RX11 113 RX11 yX11_forget wsX11_forget) := goodIn_app (goodIn_of _ (by decide +kernel)) ggX11_letters_X11_forget
theorem dX11_letters_0 : decode cX11_letters 0 = .ok (.iload_n 1, 1) := by decide +kernel
theorem dX11_letters_1 : decode cX11_letters 1 = .ok (.iconst 1, 1) := by decide +kernel
theorem dX11_letters_2 : decode cX11_letters 2 = .ok (.if_icmp .lt 8, 3) := by decide +kernel
theorem dX11_letters_5 : decode cX11_letters 5 = .ok (.iload_n 1, 1) := by decide +kernel
theorem dX11_letters_6 : decode cX11_letters 6 = .ok (.iconst 4, 1) := by decide +kernel
theorem dX11_letters_7 : decode cX11_letters 7 = .ok (.if_icmp .le 6, 3) := by decide +kernel
theorem dX11_letters_10 : decode cX11_letters 10 = .ok (.bipush (-2), 2) := by decide +kernel
theorem dX11_letters_12 : decode cX11_letters 12 = .ok (.ireturn, 1) := by decide +kernel
theorem dX11_letters_13 : decode cX11_letters 13 = .ok (.aload_n 0, 1) := by decide +kernel
theorem dX11_letters_14 : decode cX11_letters 14 = .ok (.getfield 14, 3) := by decide +kernel
theorem dX11_letters_17 : decode cX11_letters 17 = .ok (.getfield 100, 3) := by decide +kernel
theorem dX11_letters_20 : decode cX11_letters 20 = .ok (.istore_n 2, 1) := by decide +kernel
theorem dX11_letters_21 : decode cX11_letters 21 = .ok (.aload_n 0, 1) := by decide +kernel
theorem dX11_letters_22 : decode cX11_letters 22 = .ok (.getfield 14, 3) := by decide +kernel
theorem dX11_letters_25 : decode cX11_letters 25 = .ok (.iload_n 1, 1) := by decide +kernel
theorem dX11_letters_26 : decode cX11_letters 26 = .ok (.invokevirtual 104, 3) := by decide +kernel
theorem dX11_letters_29 : decode cX11_letters 29 = .ok (.aload_n 0, 1) := by decide +kernel
theorem dX11_letters_30 : decode cX11_letters 30 = .ok (.getfield 21, 3) := by decide +kernel
theorem dX11_letters_33 : decode cX11_letters 33 = .ok (.invokevirtual 107, 3) := by decide +kernel
theorem dX11_letters_36 : decode cX11_letters 36 = .ok (.iconst 0, 1) := by decide +kernel
theorem dX11_letters_37 : decode cX11_letters 37 = .ok (.istore_n 3, 1) := by decide +kernel
theorem dX11_letters_38 : decode cX11_letters 38 = .ok (.iload_n 3, 1) := by decide +kernel
theorem dX11_letters_39 : decode cX11_letters 39 = .ok (.bipush 8, 2) := by decide +kernel
theorem dX11_letters_41 : decode cX11_letters 41 = .ok (.if_icmp .ge 18, 3) := by decide +kernel
theorem dX11_letters_44 : decode cX11_letters 44 = .ok (.aload_n 0, 1) := by decide +kernel
theorem dX11_letters_45 : decode cX11_letters 45 = .ok (.getfield 25, 3) := by decide +kernel
theorem dX11_letters_48 : decode cX11_letters 48 = .ok (.iload_n 3, 1) := by decide +kernel
theorem dX11_letters_49 : decode cX11_letters 49 = .ok (.aaload, 1) := by decide +kernel
theorem dX11_letters_50 : decode cX11_letters 50 = .ok (.invokevirtual 107, 3) := by decide +kernel
theorem dX11_letters_53 : decode cX11_letters 53 = .ok (.iinc 3 1, 3) := by decide +kernel
theorem dX11_letters_56 : decode cX11_letters 56 = .ok (.goto (-18), 3) := by decide +kernel
theorem dX11_letters_59 : decode cX11_letters 59 = .ok (.aload_n 0, 1) := by decide +kernel
theorem dX11_letters_60 : decode cX11_letters 60 = .ok (.iconst 0, 1) := by decide +kernel
theorem dX11_letters_61 : decode cX11_letters 61 = .ok (.putfield 110, 3) := by decide +kernel
theorem dX11_letters_64 : decode cX11_letters 64 = .ok (.aload_n 0, 1) := by decide +kernel
theorem dX11_letters_65 : decode cX11_letters 65 = .ok (.invokevirtual 113, 3) := by decide +kernel
theorem dX11_letters_68 : decode cX11_letters 68 = .ok (.iload_n 2, 1) := by decide +kernel
theorem dX11_letters_69 : decode cX11_letters 69 = .ok (.ireturn, 1) := by decide +kernel
set_option maxRecDepth 20000 in
theorem ggX11_like_X11_isSlot : GoodIn wsX11_like wsX11_isSlot := goodIn_r _ [8] (by decide +kernel) (by decide +kernel)
set_option maxRecDepth 20000 in
theorem gX11_like_X11_isSlot : GoodIn wsX11_like (wsV RX11 126 RX11 yX11_isSlot wsX11_isSlot) := goodIn_app (goodIn_of _ (by decide +kernel)) ggX11_like_X11_isSlot
set_option maxRecDepth 20000 in
theorem ggX11_like_X11_bringDown : GoodIn wsX11_like wsX11_bringDown := goodIn_r _ [12, 13, 14, 15, 16, 17, 18, 19, 20, 21, 7, 22, 23, 24, 25, 26, 27, 28, 29, 30, 31, 32, 33, 34, 35, 36, 37, 38, 39, 40, 41, 42, 43, 44, 45, 46, 47, 48, 49, 50, 51, 52, 53, 54, 55, 56, 57, 58, 59, 60, 61, 62, 63, 64, 65, 66, 67, 68, 69, 70, 71, 72, 73, 74, 75, 76, 77, 78, 79, 80, 81, 82, 83, 84, 85, 86, 87, 88, 89, 90, 91, 92, 93, 94, 95, 96, 97, 98, 99, 100, 101, 102, 103, 104, 105, 106, 107, 108, 109, 110, 111, 112, 113, 114, 115, 116, 117, 118, 119, 120, 121, 122, 123, 124, 125, 126, 127, 128, 129, 130, 131, 132, 133, 134, 135, 136, 137, 138, 139, 140, 141, 142, 143, 144, 145, 146, 147, 148, 149, 150, 151, 152, 153, 154, 155, 156, 157, 158, 159, 160, 161, 162, 163, 164, 165, 166, 167, 168, 169, 170, 171, 172, 173, 174, 175, 176, 177, 178, 179, 180, 181, 182, 183, 184, 185, 186, 187, 188, 189, 190, 191, 192, 193, 194, 195, 196, 197, 198, 199, 200, 201, 202, 203, 204, 205, 206, 207, 208, 209, 210, 211, 212, 213, 214, 215, 216, 217, 218, 219, 220, 221, 222, 223, 224, 225, 226, 227, 228, 229, 230, 231, 232, 233, 234, 235, 236, 237, 238, 239, 240, 241, 242, 243, 244, 245, 246, 247, 248, 249, 250, 251, 252, 253, 254, 255, 256, 257, 258, 259, 260, 261, 262, 263, 264, 265, 266, 267, 268, 269, 270, 271, 272, 273, 274, 275, 276, 277, 278, 279, 280, 281, 282, 283, 284, 285, 286, 287, 288, 289, 290, 291, 292, 293, 294, 295, 296, 297, 298, 299, 300, 301, 306, 307, 308, 309, 310, 311, 312, 313, 314, 315, 316, 317, 318, 319, 320, 321, 322, 323, 324, 325, 326, 327, 328, 329, 330, 331, 332, 333, 334, 335, 336, 337, 338, 339, 340, 341, 342, 343, 344, 345, 346, 347, 348, 349, 350, 351, 352, 353, 354, 355, 356, 357, 358, 359, 360, 361, 362, 363, 364, 365, 366, 367, 368, 369, 370, 371, 372, 373, 374, 375, 376] rfl (by decide +kernel)
set_option maxRecDepth 20000 in
theorem gX11_like_X11_bringDown : GoodIn wsX11_like (wsV RX11 196 RX11 yX11_bringDown wsX11_bringDown) := goodIn_app (goodIn_of _ (by decide +kernel)) ggX11_like_X11_bringDown
set_option maxRecDepth 20000 in
theorem ggX11_like_X10_isSame : GoodIn wsX11_like wsX10_isSame := goodIn_r _ [305, 65, 70, 323, 324] (by decide +kernel) (by decide +kernel)
set_option maxRecDepth 20000 in
theorem gX11_like_X10_isSame : GoodIn wsX11_like (wsV RX11 200 RX10 yX10_isSame wsX10_isSame) := goodIn_app (goodIn_of _ (by decide +kernel)) ggX11_like_X10_isSame
theorem dX11_like_0 : decode cX11_like 0 = .ok (.aload_n 0, 1) := by decide +kernel
theorem dX11_like_1 : decode cX11_like 1 = .ok (.iload_n 1, 1) := by decide +kernel
theorem dX11_like_2 : decode cX11_like 2 = .ok (.invokevirtual 126, 3) := by decide +kernel
theorem dX11_like_5 : decode cX11_like 5 = .ok (.ifCond .eq 11, 3) := by decide +kernel
theorem dX11_like_8 : decode cX11_like 8 = .ok (.aload_n 0, 1) := by decide +kernel
theorem dX11_like_9 : decode cX11_like 9 = .ok (.iload_n 2, 1) := by decide +kernel
theorem dX11_like_10 : decode cX11_like 10 = .ok (.invokevirtual 126, 3) := by decide +kernel
theorem dX11_like_13 : decode cX11_like 13 = .ok (.ifCond .ne 5, 3) := by decide +kernel
theorem dX11_like_16 : decode cX11_like 16 = .ok (.iconst (-1), 1) := by decide +kernel
theorem dX11_like_17 : decode cX11_like 17 = .ok (.ireturn, 1) := by decide +kernel
theorem dX11_like_18 : decode cX11_like 18 = .ok (.aload_n 0, 1) := by decide +kernel
theorem dX11_like_19 : decode cX11_like 19 = .ok (.aload_n 0, 1) := by decide +kernel
theorem dX11_like_20 : decode cX11_like 20 = .ok (.getfield 25, 3) := by decide +kernel
theorem dX11_like_23 : decode cX11_like 23 = .ok (.iload_n 1, 1) := by decide +kernel
theorem dX11_like_24 : decode cX11_like 24 = .ok (.aaload, 1) := by decide +kernel
theorem dX11_like_25 : decode cX11_like 25 = .ok (.aload_n 0, 1) := by decide +kernel
theorem dX11_like_26 : decode cX11_like 26 = .ok (.getfield 66, 3) := by decide +kernel
theorem dX11_like_29 : decode cX11_like 29 = .ok (.invokevirtual 196, 3) := by decide +kernel
theorem dX11_like_32 : decode cX11_like 32 = .ok (.istore_n 3, 1) := by decide +kernel
theorem dX11_like_33 : decode cX11_like 33 = .ok (.iload_n 3, 1) := by decide +kernel
theorem dX11_like_34 : decode cX11_like 34 = .ok (.ifCond .ge 5, 3) := by decide +kernel
theorem dX11_like_37 : decode cX11_like 37 = .ok (.iload_n 3, 1) := by decide +kernel
theorem dX11_like_38 : decode cX11_like 38 = .ok (.ireturn, 1) := by decide +kernel
theorem dX11_like_39 : decode cX11_like 39 = .ok (.aload_n 0, 1) := by decide +kernel
theorem dX11_like_40 : decode cX11_like 40 = .ok (.aload_n 0, 1) := by decide +kernel
theorem dX11_like_41 : decode cX11_like 41 = .ok (.getfield 25, 3) := by decide +kernel
theorem dX11_like_44 : decode cX11_like 44 = .ok (.iload_n 2, 1) := by decide +kernel
theorem dX11_like_45 : decode cX11_like 45 = .ok (.aaload, 1) := by decide +kernel
theorem dX11_like_46 : decode cX11_like 46 = .ok (.aload_n 0, 1) := by decide +kernel
theorem dX11_like_47 : decode cX11_like 47 = .ok (.getfield 69, 3) := by decide +kernel
theorem dX11_like_50 : decode cX11_like 50 = .ok (.invokevirtual 196, 3) := by decide +kernel
theorem dX11_like_53 : decode cX11_like 53 = .ok (.istore_n 3, 1) := by decide +kernel
theorem dX11_like_54 : decode cX11_like 54 = .ok (.iload_n 3, 1) := by decide +kernel
theorem dX11_like_55 : decode cX11_like 55 = .ok (.ifCond .ge 5, 3) := by decide +kernel
theorem dX11_like_58 : decode cX11_like 58 = .ok (.iload_n 3, 1) := by decide +kernel
theorem dX11_like_59 : decode cX11_like 59 = .ok (.ireturn, 1) := by decide +kernel
theorem dX11_like_60 : decode cX11_like 60 = .ok (.aload_n 0, 1) := by decide +kernel
theorem dX11_like_61 : decode cX11_like 61 = .ok (.getfield 66, 3) := by decide +kernel
theorem dX11_like_64 : decode cX11_like 64 = .ok (.aload_n 0, 1) := by decide +kernel
theorem dX11_like_65 : decode cX11_like 65 = .ok (.getfield 69, 3) := by decide +kernel
theorem dX11_like_68 : decode cX11_like 68 = .ok (.invokevirtual 200, 3) := by decide +kernel
theorem dX11_like_71 : decode cX11_like 71 = .ok (.ifCond .eq 7, 3) := by decide +kernel
theorem dX11_like_74 : decode cX11_like 74 = .ok (.iconst 1, 1) := by decide +kernel
theorem dX11_like_75 : decode cX11_like 75 = .ok (.goto 4, 3) := by decide +kernel
theorem dX11_like_78 : decode cX11_like 78 = .ok (.iconst 0, 1) := by decide +kernel
theorem dX11_like_79 : decode cX11_like 79 = .ok (.ireturn, 1) := by decide +kernel
set_option maxRecDepth 20000 in
theorem ggX11_makeFrom_X4_read : GoodIn wsX11_makeFrom wsX4_read := goodIn_r _ [7, 8, 9, 10, 11, 12, 13, 14, 15, 16, 17, 18, 19, 20, 21, 22, 283, 284, 285, 286, 287] (by decide +kernel) (by decide +kernel)
set_option maxRecDepth 20000 in
theorem gX11_makeFrom_X4_read : GoodIn wsX11_makeFrom (wsV RX11 276 RX4 yX4_read wsX4_read) := goodIn_app (goodIn_of _ (by decide +kernel)) ggX11_makeFrom_X4_read
set_option maxRecDepth 20000 in
theorem ggX11_makeFrom_X11_putBehind : GoodIn wsX11_makeFrom wsX11_putBehind := goodIn_r _ [27, 2, 28, 29, 30, 31, 14, 32, 16, 21, 33, 34, 35, 36, 37, 38, 39, 40, 41, 42, 43, 44, 45, 46, 47, 48, 49, 50, 51, 52, 12, 13, 15, 53, 54, 55, 56, 57, 58, 59, 60, 61, 62, 63, 64, 65, 66, 67, 68, 69, 70, 71, 72, 73, 74, 75, 76, 77, 78, 79, 80, 81, 82, 83, 84, 85, 86, 87, 88, 89, 90, 91, 92, 93, 94, 95, 96, 97, 98, 99, 100, 101, 102, 103, 104, 105, 106, 107, 108, 109, 110, 111, 112, 113, 114, 115, 116, 117, 118, 119, 120, 121, 122, 123, 124, 125, 126, 127, 128, 129, 130, 131, 132, 133, 134, 135, 136, 137, 138, 139, 140, 141, 142, 143, 144, 145, 146, 147, 148, 149, 150, 151, 152, 153, 154, 155, 156, 157, 158, 159, 160, 161, 162, 163, 164, 165, 166, 167, 168, 169, 170, 171, 172, 173, 174, 175, 176, 177, 178, 179, 180, 181, 182, 183, 184, 185, 186, 187, 188, 189, 190, 191, 192, 193, 194, 195, 196, 197, 198, 199, 200, 201, 202, 203, 204, 205, 206, 207, 208, 209, 210, 211, 212, 213, 214, 215, 216, 217, 218, 219, 220, 221, 222, 223, 224, 225, 226, 227, 228, 229, 230, 231, 232, 233, 18, 19, 20, 22, 234, 235, 236, 237, 238, 239, 240, 241, 242, 243, 244, 26, 245, 246, 247, 248, 249, 250, 251, 252, 253, 254, 255, 256, 257, 258, 259, 266, 267, 268, 269, 270, 271, 272, 273, 274, 275, 276, 277, 278, 279, 280, 281, 282, 286, 287, 288, 289, 290, 291, 292, 293, 294, 295, 296, 297, 298, 299, 300, 301, 302, 303, 304, 305, 306, 307, 308, 309, 310, 311, 312, 313, 314, 315, 316, 317, 318, 319, 320, 321, 322, 323, 324, 325, 326, 327, 328, 329, 330, 331, 332, 333, 334, 335, 336] rfl (by decide +kernel)
set_option maxRecDepth 20000 in
theorem gX11_makeFrom_X11_putBehind : GoodIn wsX11_makeFrom (wsV RX11 246 RX11 yX11_putBehind wsX11_putBehind) := goodIn_app (goodIn_of _ (by decide +kernel)) ggX11_makeFrom_X11_putBehind
set_option maxRecDepth 20000 in
theorem ggX11_makeFrom_X4_add : GoodIn wsX11_makeFrom wsX4_add := goodIn_r _ [263, 264, 8, 9, 10, 265, 200, 201, 14, 202, 16, 203, 21, 286, 287, 283, 284, 285] (by decide +kernel) (by decide +kernel)
set_option maxRecDepth 20000 in
theorem gX11_makeFrom_X4_add : GoodIn wsX11_makeFrom (wsV RX11 279 RX4 yX4_add wsX4_add) := goodIn_app (goodIn_of _ (by decide +kernel)) ggX11_makeFrom_X4_add
theorem dX11_makeFrom_0 : decode cX11_makeFrom 0 = .ok (.aload_n 0, 1) := by decide +kernel
theorem dX11_makeFrom_1 : decode cX11_makeFrom 1 = .ok (.getfield 96, 3) := by decide +kernel
theorem dX11_makeFrom_4 : decode cX11_makeFrom 4 = .ok (.iload_n 1, 1) := by decide +kernel
theorem dX11_makeFrom_5 : decode cX11_makeFrom 5 = .ok (.aload_n 0, 1) := by decide +kernel
theorem dX11_makeFrom_6 : decode cX11_makeFrom 6 = .ok (.getfield 72, 3) := by decide +kernel
theorem dX11_makeFrom_9 : decode cX11_makeFrom 9 = .ok (.invokevirtual 276, 3) := by decide +kernel
theorem dX11_makeFrom_12 : decode cX11_makeFrom 12 = .ok (.aload_n 0, 1) := by decide +kernel
theorem dX11_makeFrom_13 : decode cX11_makeFrom 13 = .ok (.aload_n 2, 1) := by decide +kernel
theorem dX11_makeFrom_14 : decode cX11_makeFrom 14 = .ok (.invokevirtual 246, 3) := by decide +kernel
theorem dX11_makeFrom_17 : decode cX11_makeFrom 17 = .ok (.ifCond .eq 21, 3) := by decide +kernel
theorem dX11_makeFrom_20 : decode cX11_makeFrom 20 = .ok (.aload_n 0, 1) := by decide +kernel
theorem dX11_makeFrom_21 : decode cX11_makeFrom 21 = .ok (.getfield 96, 3) := by decide +kernel
theorem dX11_makeFrom_24 : decode cX11_makeFrom 24 = .ok (.aload_n 0, 1) := by decide +kernel
theorem dX11_makeFrom_25 : decode cX11_makeFrom 25 = .ok (.getfield 72, 3) := by decide +kernel
theorem dX11_makeFrom_28 : decode cX11_makeFrom 28 = .ok (.invokevirtual 279, 3) := by decide +kernel
theorem dX11_makeFrom_31 : decode cX11_makeFrom 31 = .ok (.ifCond .eq 7, 3) := by decide +kernel
theorem dX11_makeFrom_34 : decode cX11_makeFrom 34 = .ok (.iconst 1, 1) := by decide +kernel
theorem dX11_makeFrom_35 : decode cX11_makeFrom 35 = .ok (.goto 4, 3) := by decide +kernel
theorem dX11_makeFrom_38 : decode cX11_makeFrom 38 = .ok (.iconst 0, 1) := by decide +kernel
theorem dX11_makeFrom_39 : decode cX11_makeFrom 39 = .ok (.ireturn, 1) := by decide +kernel
