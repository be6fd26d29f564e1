theorem dX10_push_0 : decode cX10_push 0 = .ok (.aload_n 0, 1) := by decide +kernel
theorem dX10_push_1 : decode cX10_push 1 = .ok (.getfield 21, 3) := by decide +kernel
theorem dX10_push_4 : decode cX10_push 4 = .ok (.ifCond .lt 15, 3) := by decide +kernel
theorem dX10_push_7 : decode cX10_push 7 = .ok (.aload_n 0, 1) := by decide +kernel
theorem dX10_push_8 : decode cX10_push 8 = .ok (.getfield 21, 3) := by decide +kernel
theorem dX10_push_11 : decode cX10_push 11 = .ok (.aload_n 0, 1) := by decide +kernel
theorem dX10_push_12 : decode cX10_push 12 = .ok (.getfield 15, 3) := by decide +kernel
theorem dX10_push_15 : decode cX10_push 15 = .ok (.arraylength, 1) := by decide +kernel
theorem dX10_push_16 : decode cX10_push 16 = .ok (.if_icmp .lt 5, 3) := by decide +kernel
theorem dX10_push_19 : decode cX10_push 19 = .ok (.iconst 0, 1) := by decide +kernel
theorem dX10_push_20 : decode cX10_push 20 = .ok (.ireturn, 1) := by decide +kernel
theorem dX10_push_21 : decode cX10_push 21 = .ok (.aload_n 0, 1) := by decide +kernel
theorem dX10_push_22 : decode cX10_push 22 = .ok (.getfield 15, 3) := by decide +kernel
theorem dX10_push_25 : decode cX10_push 25 = .ok (.aload_n 0, 1) := by decide +kernel
theorem dX10_push_26 : decode cX10_push 26 = .ok (.dup, 1) := by decide +kernel
theorem dX10_push_27 : decode cX10_push 27 = .ok (.getfield 21, 3) := by decide +kernel
theorem dX10_push_30 : decode cX10_push 30 = .ok (.dup_x1, 1) := by decide +kernel
theorem dX10_push_31 : decode cX10_push 31 = .ok (.iconst 1, 1) := by decide +kernel
theorem dX10_push_32 : decode cX10_push 32 = .ok (.iadd, 1) := by decide +kernel
theorem dX10_push_33 : decode cX10_push 33 = .ok (.putfield 21, 3) := by decide +kernel
theorem dX10_push_36 : decode cX10_push 36 = .ok (.iload_n 1, 1) := by decide +kernel
theorem dX10_push_37 : decode cX10_push 37 = .ok (.iastore, 1) := by decide +kernel
theorem dX10_push_38 : decode cX10_push 38 = .ok (.iconst 1, 1) := by decide +kernel
theorem dX10_push_39 : decode cX10_push 39 = .ok (.ireturn, 1) := by decide +kernel
theorem dX10_take_0 : decode cX10_take 0 = .ok (.aload_n 0, 1) := by decide +kernel
theorem dX10_take_1 : decode cX10_take 1 = .ok (.aload_n 1, 1) := by decide +kernel
theorem dX10_take_2 : decode cX10_take 2 = .ok (.getfield 21, 3) := by decide +kernel
theorem dX10_take_5 : decode cX10_take 5 = .ok (.aload_n 0, 1) := by decide +kernel
theorem dX10_take_6 : decode cX10_take 6 = .ok (.getfield 15, 3) := by decide +kernel
theorem dX10_take_9 : decode cX10_take 9 = .ok (.arraylength, 1) := by decide +kernel
theorem dX10_take_10 : decode cX10_take 10 = .ok (.invokestatic 25, 3) := by decide +kernel
theorem dX10_take_13 : decode cX10_take 13 = .ok (.putfield 21, 3) := by decide +kernel
theorem dX10_take_16 : decode cX10_take 16 = .ok (.iconst 0, 1) := by decide +kernel
theorem dX10_take_17 : decode cX10_take 17 = .ok (.istore_n 2, 1) := by decide +kernel
theorem dX10_take_18 : decode cX10_take 18 = .ok (.iload_n 2, 1) := by decide +kernel
theorem dX10_take_19 : decode cX10_take 19 = .ok (.aload_n 0, 1) := by decide +kernel
theorem dX10_take_20 : decode cX10_take 20 = .ok (.getfield 21, 3) := by decide +kernel
theorem dX10_take_23 : decode cX10_take 23 = .ok (.if_icmp .ge 21, 3) := by decide +kernel
theorem dX10_take_26 : decode cX10_take 26 = .ok (.aload_n 0, 1) := by decide +kernel
theorem dX10_take_27 : decode cX10_take 27 = .ok (.getfield 15, 3) := by decide +kernel
theorem dX10_take_30 : decode cX10_take 30 = .ok (.iload_n 2, 1) := by decide +kernel
theorem dX10_take_31 : decode cX10_take 31 = .ok (.aload_n 1, 1) := by decide +kernel
theorem dX10_take_32 : decode cX10_take 32 = .ok (.getfield 15, 3) := by decide +kernel
theorem dX10_take_35 : decode cX10_take 35 = .ok (.iload_n 2, 1) := by decide +kernel
theorem dX10_take_36 : decode cX10_take 36 = .ok (.iaload, 1) := by decide +kernel
theorem dX10_take_37 : decode cX10_take 37 = .ok (.iastore, 1) := by decide +kernel
theorem dX10_take_38 : decode cX10_take 38 = .ok (.iinc 2 1, 3) := by decide +kernel
theorem dX10_take_41 : decode cX10_take 41 = .ok (.goto (-23), 3) := by decide +kernel
theorem dX10_take_44 : decode cX10_take 44 = .ok (.return_, 1) := by decide +kernel
theorem dX10_unpack_0 : decode cX10_unpack 0 = .ok (.aload_n 0, 1) := by decide +kernel
theorem dX10_unpack_1 : decode cX10_unpack 1 = .ok (.iconst 0, 1) := by decide +kernel
theorem dX10_unpack_2 : decode cX10_unpack 2 = .ok (.putfield 21, 3) := by decide +kernel
theorem dX10_unpack_5 : decode cX10_unpack 5 = .ok (.iconst 0, 1) := by decide +kernel
theorem dX10_unpack_6 : decode cX10_unpack 6 = .ok (.istore 5, 2) := by decide +kernel
theorem dX10_unpack_8 : decode cX10_unpack 8 = .ok (.iload 5, 2) := by decide +kernel
theorem dX10_unpack_10 : decode cX10_unpack 10 = .ok (.iconst 2, 1) := by decide +kernel
theorem dX10_unpack_11 : decode cX10_unpack 11 = .ok (.if_icmp .ge 106, 3) := by decide +kernel
theorem dX10_unpack_14 : decode cX10_unpack 14 = .ok (.iload 5, 2) := by decide +kernel
theorem dX10_unpack_16 : decode cX10_unpack 16 = .ok (.ifCond .ne 7, 3) := by decide +kernel
theorem dX10_unpack_19 : decode cX10_unpack 19 = .ok (.lload_n 1, 1) := by decide +kernel
theorem dX10_unpack_20 : decode cX10_unpack 20 = .ok (.goto 4, 3) := by decide +kernel
theorem dX10_unpack_23 : decode cX10_unpack 23 = .ok (.lload_n 3, 1) := by decide +kernel
theorem dX10_unpack_24 : decode cX10_unpack 24 = .ok (.lstore 6, 2) := by decide +kernel
theorem dX10_unpack_26 : decode cX10_unpack 26 = .ok (.iconst 0, 1) := by decide +kernel
theorem dX10_unpack_27 : decode cX10_unpack 27 = .ok (.istore 8, 2) := by decide +kernel
theorem dX10_unpack_29 : decode cX10_unpack 29 = .ok (.iload 8, 2) := by decide +kernel
theorem dX10_unpack_31 : decode cX10_unpack 31 = .ok (.bipush 30, 2) := by decide +kernel
theorem dX10_unpack_33 : decode cX10_unpack 33 = .ok (.if_icmp .ge 21, 3) := by decide +kernel
theorem dX10_unpack_36 : decode cX10_unpack 36 = .ok (.lload 6, 2) := by decide +kernel
theorem dX10_unpack_38 : decode cX10_unpack 38 = .ok (.iconst 2, 1) := by decide +kernel
theorem dX10_unpack_39 : decode cX10_unpack 39 = .ok (.iload 8, 2) := by decide +kernel
theorem dX10_unpack_41 : decode cX10_unpack 41 = .ok (.imul, 1) := by decide +kernel
theorem dX10_unpack_42 : decode cX10_unpack 42 = .ok (.lshr, 1) := by decide +kernel
theorem dX10_unpack_43 : decode cX10_unpack 43 = .ok (.lconst 1, 1) := by decide +kernel
theorem dX10_unpack_44 : decode cX10_unpack 44 = .ok (.lcmp, 1) := by decide +kernel
theorem dX10_unpack_45 : decode cX10_unpack 45 = .ok (.ifCond .le 9, 3) := by decide +kernel
theorem dX10_unpack_48 : decode cX10_unpack 48 = .ok (.iinc 8 1, 3) := by decide +kernel
theorem dX10_unpack_51 : decode cX10_unpack 51 = .ok (.goto (-22), 3) := by decide +kernel
theorem dX10_unpack_54 : decode cX10_unpack 54 = .ok (.iload 8, 2) := by decide +kernel
theorem dX10_unpack_56 : decode cX10_unpack 56 = .ok (.iconst 1, 1) := by decide +kernel
theorem dX10_unpack_57 : decode cX10_unpack 57 = .ok (.isub, 1) := by decide +kernel
theorem dX10_unpack_58 : decode cX10_unpack 58 = .ok (.istore 9, 2) := by decide +kernel
theorem dX10_unpack_60 : decode cX10_unpack 60 = .ok (.iload 9, 2) := by decide +kernel
theorem dX10_unpack_62 : decode cX10_unpack 62 = .ok (.ifCond .lt 49, 3) := by decide +kernel
theorem dX10_unpack_65 : decode cX10_unpack 65 = .ok (.aload_n 0, 1) := by decide +kernel
theorem dX10_unpack_66 : decode cX10_unpack 66 = .ok (.getfield 21, 3) := by decide +kernel
theorem dX10_unpack_69 : decode cX10_unpack 69 = .ok (.aload_n 0, 1) := by decide +kernel
theorem dX10_unpack_70 : decode cX10_unpack 70 = .ok (.getfield 15, 3) := by decide +kernel
theorem dX10_unpack_73 : decode cX10_unpack 73 = .ok (.arraylength, 1) := by decide +kernel
theorem dX10_unpack_74 : decode cX10_unpack 74 = .ok (.if_icmp .ge 37, 3) := by decide +kernel
theorem dX10_unpack_77 : decode cX10_unpack 77 = .ok (.aload_n 0, 1) := by decide +kernel
theorem dX10_unpack_78 : decode cX10_unpack 78 = .ok (.getfield 15, 3) := by decide +kernel
theorem dX10_unpack_81 : decode cX10_unpack 81 = .ok (.aload_n 0, 1) := by decide +kernel
theorem dX10_unpack_82 : decode cX10_unpack 82 = .ok (.dup, 1) := by decide +kernel
theorem dX10_unpack_83 : decode cX10_unpack 83 = .ok (.getfield 21, 3) := by decide +kernel
theorem dX10_unpack_86 : decode cX10_unpack 86 = .ok (.dup_x1, 1) := by decide +kernel
theorem dX10_unpack_87 : decode cX10_unpack 87 = .ok (.iconst 1, 1) := by decide +kernel
theorem dX10_unpack_88 : decode cX10_unpack 88 = .ok (.iadd, 1) := by decide +kernel
theorem dX10_unpack_89 : decode cX10_unpack 89 = .ok (.putfield 21, 3) := by decide +kernel
theorem dX10_unpack_92 : decode cX10_unpack 92 = .ok (.lload 6, 2) := by decide +kernel
theorem dX10_unpack_94 : decode cX10_unpack 94 = .ok (.iconst 2, 1) := by decide +kernel
theorem dX10_unpack_95 : decode cX10_unpack 95 = .ok (.iload 9, 2) := by decide +kernel
theorem dX10_unpack_97 : decode cX10_unpack 97 = .ok (.imul, 1) := by decide +kernel
theorem dX10_unpack_98 : decode cX10_unpack 98 = .ok (.lshr, 1) := by decide +kernel
theorem dX10_unpack_99 : decode cX10_unpack 99 = .ok (.ldc2_w 30, 3) := by decide +kernel
theorem dX10_unpack_102 : decode cX10_unpack 102 = .ok (.land, 1) := by decide +kernel
theorem dX10_unpack_103 : decode cX10_unpack 103 = .ok (.l2i, 1) := by decide +kernel
theorem dX10_unpack_104 : decode cX10_unpack 104 = .ok (.iastore, 1) := by decide +kernel
theorem dX10_unpack_105 : decode cX10_unpack 105 = .ok (.iinc 9 (-1), 3) := by decide +kernel
theorem dX10_unpack_108 : decode cX10_unpack 108 = .ok (.goto (-48), 3) := by decide +kernel
theorem dX10_unpack_111 : decode cX10_unpack 111 = .ok (.iinc 5 1, 3) := by decide +kernel
theorem dX10_unpack_114 : decode cX10_unpack 114 = .ok (.goto (-106), 3) := by decide +kernel
theorem dX10_unpack_117 : decode cX10_unpack 117 = .ok (.return_, 1) := by decide +kernel
theorem dX10_wipe_0 : decode cX10_wipe 0 = .ok (.aload_n 0, 1) := by decide +kernel
theorem dX10_wipe_1 : decode cX10_wipe 1 = .ok (.iconst 0, 1) := by decide +kernel
theorem dX10_wipe_2 : decode cX10_wipe 2 = .ok (.putfield 21, 3) := by decide +kernel
theorem dX10_wipe_5 : decode cX10_wipe 5 = .ok (.return_, 1) := by decide +kernel
set_option maxRecDepth 20000 in
theorem ggX11_at_X11_isSlot : GoodIn wsX11_at wsX11_isSlot := goodIn_r _ [6] (by decide +kernel) (by decide +kernel)
set_option maxRecDepth 20000 in
theorem gX11_at_X11_isSlot : GoodIn wsX11_at (wsV RX11 126 RX11 yX11_isSlot wsX11_isSlot) := goodIn_app (goodIn_of _ (by decide +kernel)) ggX11_at_X11_isSlot
set_option maxRecDepth 20000 in
theorem ggX11_at_X10_pick : GoodIn wsX11_at wsX10_pick := goodIn_r _ [11, 12, 13, 31, 32] (by decide +kernel) (by decide +kernel)
set_option maxRecDepth 20000 in
theorem gX11_at_X10_pick : GoodIn wsX11_at (wsV RX11 133 RX10 yX10_pick wsX10_pick) := goodIn_app (goodIn_of _ (by decide +kernel)) ggX11_at_X10_pick
theorem dX11_at_0 : decode cX11_at 0 = .ok (.aload_n 0, 1) := by decide +kernel
theorem dX11_at_1 : decode cX11_at 1 = .ok (.iload_n 1, 1) := by decide +kernel
theorem dX11_at_2 : decode cX11_at 2 = .ok (.invokevirtual 126, 3) := by decide +kernel
theorem dX11_at_5 : decode cX11_at 5 = .ok (.ifCond .eq 16, 3) := by decide +kernel
theorem dX11_at_8 : decode cX11_at 8 = .ok (.aload_n 0, 1) := by decide +kernel
theorem dX11_at_9 : decode cX11_at 9 = .ok (.getfield 25, 3) := by decide +kernel
theorem dX11_at_12 : decode cX11_at 12 = .ok (.iload_n 1, 1) := by decide +kernel
theorem dX11_at_13 : decode cX11_at 13 = .ok (.aaload, 1) := by decide +kernel
theorem dX11_at_14 : decode cX11_at 14 = .ok (.iload_n 2, 1) := by decide +kernel
theorem dX11_at_15 : decode cX11_at 15 = .ok (.invokevirtual 133, 3) := by decide +kernel
theorem dX11_at_18 : decode cX11_at 18 = .ok (.goto 4, 3) := by decide +kernel
theorem dX11_at_21 : decode cX11_at 21 = .ok (.iconst (-1), 1) := by decide +kernel
theorem dX11_at_22 : decode cX11_at 22 = .ok (.ireturn, 1) := by decide +kernel
set_option maxRecDepth 20000 in
theorem ggX11_bringDown_X11_isSeen : GoodIn wsX11_bringDown wsX11_isSeen := goodIn_r _ [11, 3, 291, 292, 293, 294, 295, 296, 297, 298, 299, 300, 301, 302, 303, 304, 305, 306, 307] (by decide +kernel) (by decide +kernel)
set_option maxRecDepth 20000 in
theorem gX11_bringDown_X11_isSeen : GoodIn wsX11_bringDown (wsV RX11 178 RX11 yX11_isSeen wsX11_isSeen) := goodIn_app (goodIn_of _ (by decide +kernel)) ggX11_bringDown_X11_isSeen
set_option maxRecDepth 20000 in
theorem ggX11_bringDown_X8_numberOf : GoodIn wsX11_bringDown wsX8_numberOf := goodIn_r _ [16, 17, 18, 19, 20, 15, 21, 22, 23, 24, 25, 26, 27, 28, 29, 308, 309, 310, 311, 312, 313] (by decide +kernel) (by decide +kernel)
set_option maxRecDepth 20000 in
theorem gX11_bringDown_X8_numberOf : GoodIn wsX11_bringDown (wsV RX11 263 RX8 yX8_numberOf wsX8_numberOf) := goodIn_app (goodIn_of _ (by decide +kernel)) ggX11_bringDown_X8_numberOf
set_option maxRecDepth 20000 in
theorem ggX11_bringDown_X1_leastOf : GoodIn wsX11_bringDown wsX1_leastOf := goodIn_r _ [34, 35, 36, 314, 315, 316] (by decide +kernel) (by decide +kernel)
set_option maxRecDepth 20000 in
theorem gX11_bringDown_X1_leastOf : GoodIn wsX11_bringDown (wsV RX11 266 RX1 yX1_leastOf wsX1_leastOf) := goodIn_app (goodIn_of _ (by decide +kernel)) ggX11_bringDown_X1_leastOf
set_option maxRecDepth 20000 in
theorem ggX11_bringDown_X8_write : GoodIn wsX11_bringDown wsX8_write := goodIn_r _ [40, 41, 42, 43, 15, 44, 28, 45, 46, 47, 48, 22, 23, 18, 19, 20, 21, 49, 50, 51, 52, 53, 54, 55, 56, 57, 58, 59, 310, 311, 312, 313, 308, 309] (by decide +kernel) (by decide +kernel)
set_option maxRecDepth 20000 in
theorem gX11_bringDown_X8_write : GoodIn wsX11_bringDown (wsV RX11 269 RX8 yX8_write wsX8_write) := goodIn_app (goodIn_of _ (by decide +kernel)) ggX11_bringDown_X8_write
set_option maxRecDepth 20000 in
theorem ggX11_bringDown_X6_run : GoodIn wsX11_bringDown wsX6_run := goodIn_r _ [64, 65, 66, 67, 68, 69, 70, 71, 72, 73, 74, 75, 76, 77, 78, 79, 50, 51, 52, 53, 54, 80, 81, 82, 63, 83, 84, 85, 86, 87, 88, 89, 90, 91, 92, 93, 94, 95, 96, 97, 98, 99, 100, 101, 102, 103, 104, 105, 106, 107, 108, 109, 110, 111, 56, 57, 58, 59, 112, 113, 114, 115, 116, 117, 118, 119, 120, 121, 122, 123, 124, 125, 126, 127, 128, 129, 130, 131, 132, 133, 134, 135, 136, 137, 138, 139, 140, 141, 142, 143, 144, 145, 146, 147, 148, 149, 150, 151, 152, 153, 154, 155, 156, 157, 158, 159, 160, 161, 162, 163, 164, 165, 166, 167, 168, 169, 170, 171, 172, 173, 174, 175, 176, 177, 178, 179, 180, 181, 182, 183, 184, 185, 186, 187, 188, 189, 190, 191, 192, 193, 194, 195, 196, 197, 198, 199, 200, 201, 202, 203, 204, 205, 206, 207, 208, 209, 210, 211, 212, 213, 214, 215, 216, 217, 218, 219, 220, 221, 222, 223, 224, 225, 226, 227, 228, 229, 230, 231, 232, 233, 234, 235, 236, 237, 238, 239, 240, 241, 242, 243, 244, 245, 246, 247, 248, 249, 250, 251, 252, 253, 254, 255, 256, 257, 258, 259, 260, 261, 262, 263, 264, 265, 266, 267, 268, 269, 270, 271, 272, 10, 273, 274, 275, 276, 277, 278, 279, 280, 281, 282, 283, 284, 285, 286, 287, 288, 289, 290, 317, 318, 319, 320, 321, 322, 308, 309, 323, 324, 325, 326, 327, 328, 329, 330, 331, 332, 333, 334, 335, 336, 337, 338, 339, 340, 341, 342, 343, 344, 345, 346, 347, 310, 311, 312, 313, 348, 349, 350, 351, 352, 353, 354, 355, 356, 357, 358, 359, 360, 361] rfl (by decide +kernel)
set_option maxRecDepth 20000 in
theorem gX11_bringDown_X6_run : GoodIn wsX11_bringDown (wsV RX11 238 RX6 yX6_run wsX6_run) := goodIn_app (goodIn_of _ (by decide +kernel)) ggX11_bringDown_X6_run
theorem dX11_bringDown_0 : decode cX11_bringDown 0 = .ok (.aload_n 0, 1) := by decide +kernel
theorem dX11_bringDown_1 : decode cX11_bringDown 1 = .ok (.invokevirtual 178, 3) := by decide +kernel
theorem dX11_bringDown_4 : decode cX11_bringDown 4 = .ok (.ifCond .eq 21, 3) := by decide +kernel
theorem dX11_bringDown_7 : decode cX11_bringDown 7 = .ok (.aload_n 0, 1) := by decide +kernel
theorem dX11_bringDown_8 : decode cX11_bringDown 8 = .ok (.getfield 165, 3) := by decide +kernel
theorem dX11_bringDown_11 : decode cX11_bringDown 11 = .ok (.ifCond .ne 17, 3) := by decide +kernel
theorem dX11_bringDown_14 : decode cX11_bringDown 14 = .ok (.aload_n 1, 1) := by decide +kernel
theorem dX11_bringDown_15 : decode cX11_bringDown 15 = .ok (.getfield 123, 3) := by decide +kernel
theorem dX11_bringDown_18 : decode cX11_bringDown 18 = .ok (.aload_n 0, 1) := by decide +kernel
theorem dX11_bringDown_19 : decode cX11_bringDown 19 = .ok (.getfield 172, 3) := by decide +kernel
theorem dX11_bringDown_22 : decode cX11_bringDown 22 = .ok (.if_icmp .le 6, 3) := by decide +kernel
theorem dX11_bringDown_25 : decode cX11_bringDown 25 = .ok (.bipush (-3), 2) := by decide +kernel
theorem dX11_bringDown_27 : decode cX11_bringDown 27 = .ok (.ireturn, 1) := by decide +kernel
theorem dX11_bringDown_28 : decode cX11_bringDown 28 = .ok (.aload_n 0, 1) := by decide +kernel
theorem dX11_bringDown_29 : decode cX11_bringDown 29 = .ok (.getfield 165, 3) := by decide +kernel
theorem dX11_bringDown_32 : decode cX11_bringDown 32 = .ok (.ifCond .ne 31, 3) := by decide +kernel
theorem dX11_bringDown_35 : decode cX11_bringDown 35 = .ok (.aload_n 0, 1) := by decide +kernel
theorem dX11_bringDown_36 : decode cX11_bringDown 36 = .ok (.getfield 14, 3) := by decide +kernel
theorem dX11_bringDown_39 : decode cX11_bringDown 39 = .ok (.aload_n 0, 1) := by decide +kernel
theorem dX11_bringDown_40 : decode cX11_bringDown 40 = .ok (.getfield 35, 3) := by decide +kernel
theorem dX11_bringDown_43 : decode cX11_bringDown 43 = .ok (.aload_n 0, 1) := by decide +kernel
theorem dX11_bringDown_44 : decode cX11_bringDown 44 = .ok (.getfield 14, 3) := by decide +kernel
theorem dX11_bringDown_47 : decode cX11_bringDown 47 = .ok (.aload_n 1, 1) := by decide +kernel
theorem dX11_bringDown_48 : decode cX11_bringDown 48 = .ok (.invokevirtual 263, 3) := by decide +kernel
theorem dX11_bringDown_51 : decode cX11_bringDown 51 = .ok (.invokevirtual 266, 3) := by decide +kernel
theorem dX11_bringDown_54 : decode cX11_bringDown 54 = .ok (.aload_n 2, 1) := by decide +kernel
theorem dX11_bringDown_55 : decode cX11_bringDown 55 = .ok (.invokevirtual 269, 3) := by decide +kernel
theorem dX11_bringDown_58 : decode cX11_bringDown 58 = .ok (.aload_n 2, 1) := by decide +kernel
theorem dX11_bringDown_59 : decode cX11_bringDown 59 = .ok (.getfield 123, 3) := by decide +kernel
theorem dX11_bringDown_62 : decode cX11_bringDown 62 = .ok (.ireturn, 1) := by decide +kernel
theorem dX11_bringDown_63 : decode cX11_bringDown 63 = .ok (.aload_n 0, 1) := by decide +kernel
theorem dX11_bringDown_64 : decode cX11_bringDown 64 = .ok (.getfield 62, 3) := by decide +kernel
theorem dX11_bringDown_67 : decode cX11_bringDown 67 = .ok (.aload_n 1, 1) := by decide +kernel
theorem dX11_bringDown_68 : decode cX11_bringDown 68 = .ok (.aload_n 2, 1) := by decide +kernel
theorem dX11_bringDown_69 : decode cX11_bringDown 69 = .ok (.invokevirtual 238, 3) := by decide +kernel
theorem dX11_bringDown_72 : decode cX11_bringDown 72 = .ok (.ifCond .eq 10, 3) := by decide +kernel
theorem dX11_bringDown_75 : decode cX11_bringDown 75 = .ok (.aload_n 2, 1) := by decide +kernel
theorem dX11_bringDown_76 : decode cX11_bringDown 76 = .ok (.getfield 123, 3) := by decide +kernel
theorem dX11_bringDown_79 : decode cX11_bringDown 79 = .ok (.goto 5, 3) := by decide +kernel
theorem dX11_bringDown_82 : decode cX11_bringDown 82 = .ok (.bipush (-4), 2) := by decide +kernel
theorem dX11_bringDown_84 : decode cX11_bringDown 84 = .ok (.ireturn, 1) := by decide +kernel
set_option maxRecDepth 20000 in
theorem ggX11_clear_X10_wipe : GoodIn wsX11_clear wsX10_wipe := goodIn_r _ [7, 8, 26, 27] (by decide +kernel) (by decide +kernel)
set_option maxRecDepth 20000 in
theorem gX11_clear_X10_wipe : GoodIn wsX11_clear (wsV RX11 107 RX10 yX10_wipe wsX10_wipe) := goodIn_app (goodIn_of _ (by decide +kernel)) ggX11_clear_X10_wipe
theorem dX11_clear_0 : decode cX11_clear 0 = .ok (.aload_n 0, 1) := by decide +kernel
theorem dX11_clear_1 : decode cX11_clear 1 = .ok (.getfield 21, 3) := by decide +kernel
theorem dX11_clear_4 : decode cX11_clear 4 = .ok (.getfield 123, 3) := by decide +kernel
theorem dX11_clear_7 : decode cX11_clear 7 = .ok (.istore_n 1, 1) := by decide +kernel
theorem dX11_clear_8 : decode cX11_clear 8 = .ok (.aload_n 0, 1) := by decide +kernel
theorem dX11_clear_9 : decode cX11_clear 9 = .ok (.getfield 21, 3) := by decide +kernel
theorem dX11_clear_12 : decode cX11_clear 12 = .ok (.invokevirtual 107, 3) := by decide +kernel
theorem dX11_clear_15 : decode cX11_clear 15 = .ok (.iload_n 1, 1) := by decide +kernel
theorem dX11_clear_16 : decode cX11_clear 16 = .ok (.ireturn, 1) := by decide +kernel
set_option maxRecDepth 20000 in
theorem ggX11_closed_X11_isSeen : GoodIn wsX11_closed wsX11_isSeen := goodIn_r _ [6, 7, 8, 9, 10, 11, 12, 13, 14, 15, 16, 17, 18, 19, 20, 21, 22, 23, 24] (by decide +kernel) (by decide +kernel)
set_option maxRecDepth 20000 in
theorem gX11_closed_X11_isSeen : GoodIn wsX11_closed (wsV RX11 178 RX11 yX11_isSeen wsX11_isSeen) := goodIn_app (goodIn_of _ (by decide +kernel)) ggX11_closed_X11_isSeen
theorem dX11_closed_0 : decode cX11_closed 0 = .ok (.aload_n 0, 1) := by decide +kernel
theorem dX11_closed_1 : decode cX11_closed 1 = .ok (.invokevirtual 178, 3) := by decide +kernel
theorem dX11_closed_4 : decode cX11_closed 4 = .ok (.ifCond .ne 6, 3) := by decide +kernel
theorem dX11_closed_7 : decode cX11_closed 7 = .ok (.bipush (-3), 2) := by decide +kernel
theorem dX11_closed_9 : decode cX11_closed 9 = .ok (.ireturn, 1) := by decide +kernel
theorem dX11_closed_10 : decode cX11_closed 10 = .ok (.aload_n 0, 1) := by decide +kernel
theorem dX11_closed_11 : decode cX11_closed 11 = .ok (.getfield 165, 3) := by decide +kernel
theorem dX11_closed_14 : decode cX11_closed 14 = .ok (.ifCond .eq 7, 3) := by decide +kernel
theorem dX11_closed_17 : decode cX11_closed 17 = .ok (.iconst 1, 1) := by decide +kernel
theorem dX11_closed_18 : decode cX11_closed 18 = .ok (.goto 4, 3) := by decide +kernel
theorem dX11_closed_21 : decode cX11_closed 21 = .ok (.iconst 0, 1) := by decide +kernel
theorem dX11_closed_22 : decode cX11_closed 22 = .ok (.ireturn, 1) := by decide +kernel
set_option maxRecDepth 20000 in
theorem ggX11_count_X11_isProved : GoodIn wsX11_count wsX11_isProved := goodIn_r _ [9, 10, 11, 12, 13, 8, 14, 15, 16, 17, 18, 19, 20, 21, 22, 23, 24, 25, 26, 27, 28, 29, 30, 31, 32] (by decide +kernel) (by decide +kernel)
set_option maxRecDepth 20000 in
theorem gX11_count_X11_isProved : GoodIn wsX11_count (wsV RX11 204 RX11 yX11_isProved wsX11_isProved) := goodIn_app (goodIn_of _ (by decide +kernel)) ggX11_count_X11_isProved
theorem dX11_count_0 : decode cX11_count 0 = .ok (.iload_n 1, 1) := by decide +kernel
theorem dX11_count_1 : decode cX11_count 1 = .ok (.ifCond .lt 9, 3) := by decide +kernel
theorem dX11_count_4 : decode cX11_count 4 = .ok (.iload_n 1, 1) := by decide +kernel
theorem dX11_count_5 : decode cX11_count 5 = .ok (.bipush 30, 2) := by decide +kernel
theorem dX11_count_7 : decode cX11_count 7 = .ok (.if_icmp .le 7, 3) := by decide +kernel
theorem dX11_count_10 : decode cX11_count 10 = .ok (.ldc2_w 213, 3) := by decide +kernel
theorem dX11_count_13 : decode cX11_count 13 = .ok (.lreturn, 1) := by decide +kernel
theorem dX11_count_14 : decode cX11_count 14 = .ok (.aload_n 0, 1) := by decide +kernel
theorem dX11_count_15 : decode cX11_count 15 = .ok (.invokevirtual 204, 3) := by decide +kernel
theorem dX11_count_18 : decode cX11_count 18 = .ok (.ifCond .eq 15, 3) := by decide +kernel
theorem dX11_count_21 : decode cX11_count 21 = .ok (.aload_n 0, 1) := by decide +kernel
theorem dX11_count_22 : decode cX11_count 22 = .ok (.getfield 53, 3) := by decide +kernel
theorem dX11_count_25 : decode cX11_count 25 = .ok (.getfield 215, 3) := by decide +kernel
theorem dX11_count_28 : decode cX11_count 28 = .ok (.iload_n 1, 1) := by decide +kernel
theorem dX11_count_29 : decode cX11_count 29 = .ok (.laload, 1) := by decide +kernel
theorem dX11_count_30 : decode cX11_count 30 = .ok (.goto 6, 3) := by decide +kernel
theorem dX11_count_33 : decode cX11_count 33 = .ok (.ldc2_w 219, 3) := by decide +kernel
theorem dX11_count_36 : decode cX11_count 36 = .ok (.lreturn, 1) := by decide +kernel
theorem dX11_forget_0 : decode cX11_forget 0 = .ok (.aload_n 0, 1) := by decide +kernel
theorem dX11_forget_1 : decode cX11_forget 1 = .ok (.iconst 0, 1) := by decide +kernel
theorem dX11_forget_2 : decode cX11_forget 2 = .ok (.putfield 172, 3) := by decide +kernel
theorem dX11_forget_5 : decode cX11_forget 5 = .ok (.aload_n 0, 1) := by decide +kernel
theorem dX11_forget_6 : decode cX11_forget 6 = .ok (.iconst 0, 1) := by decide +kernel
theorem dX11_forget_7 : decode cX11_forget 7 = .ok (.putfield 165, 3) := by decide +kernel
theorem dX11_forget_10 : decode cX11_forget 10 = .ok (.return_, 1) := by decide +kernel
set_option maxRecDepth 20000 in
theorem ggX11_free_X11_forget : GoodIn wsX11_free wsX11_forget := goodIn_r _ [6, 7, 8, 9, 10, 11, 12, 13, 14, 15, 16, 17, 18, 19, 20, 21, 22, 23, 24, 25] (by decide +kernel) (by decide +kernel)
set_option maxRecDepth 20000 in
theorem gX11_free_X11_forget : GoodIn wsX11_free (wsV RX11 113 RX11 yX11_forget wsX11_forget) := goodIn_app (goodIn_of _ (by decide +kernel)) ggX11_free_X11_forget
theorem dX11_free_0 : decode cX11_free 0 = .ok (.aload_n 0, 1) := by decide +kernel
theorem dX11_free_1 : decode cX11_free 1 = .ok (.getfield 110, 3) := by decide +kernel
theorem dX11_free_4 : decode cX11_free 4 = .ok (.istore_n 1, 1) := by decide +kernel
theorem dX11_free_5 : decode cX11_free 5 = .ok (.aload_n 0, 1) := by decide +kernel
theorem dX11_free_6 : decode cX11_free 6 = .ok (.iconst 0, 1) := by decide +kernel
theorem dX11_free_7 : decode cX11_free 7 = .ok (.putfield 110, 3) := by decide +kernel
theorem dX11_free_10 : decode cX11_free 10 = .ok (.aload_n 0, 1) := by decide +kernel
theorem dX11_free_11 : decode cX11_free 11 = .ok (.invokevirtual 113, 3) := by decide +kernel
theorem dX11_free_14 : decode cX11_free 14 = .ok (.iload_n 1, 1) := by decide +kernel
theorem dX11_free_15 : decode cX11_free 15 = .ok (.ireturn, 1) := by decide +kernel
set_option maxRecDepth 20000 in
theorem ggX11_init_X8_init : GoodIn wsX11_init wsX8_init := goodIn_r _ [47, 48, 2, 3, 49, 50, 51, 52, 53, 54, 6, 55, 56, 57, 58, 59, 60, 61, 126, 127, 128, 129] (by decide +kernel) (by decide +kernel)
set_option maxRecDepth 20000 in
theorem gX11_init_X8_init : GoodIn wsX11_init (wsX8_init) := ggX11_init_X8_init
set_option maxRecDepth 20000 in
theorem ggX11_init_X10_init : GoodIn wsX11_init wsX10_init := goodIn_r _ [64, 65, 2, 3, 66, 57, 58, 59, 49, 67, 147, 148] (by decide +kernel) (by decide +kernel)
set_option maxRecDepth 20000 in
theorem gX11_init_X10_init : GoodIn wsX11_init (wsX10_init) := ggX11_init_X10_init
set_option maxRecDepth 20000 in
theorem ggX11_init_X1_init : GoodIn wsX11_init wsX1_init := goodIn_r _ [70, 71, 2, 3, 49, 72, 149, 150, 151] (by decide +kernel) (by decide +kernel)
set_option maxRecDepth 20000 in
theorem gX11_init_X1_init : GoodIn wsX11_init (wsX1_init) := ggX11_init_X1_init
set_option maxRecDepth 20000 in
theorem ggX11_init_X7_init : GoodIn wsX11_init wsX7_init := goodIn_r _ [75, 76, 2, 3, 77, 49, 78, 79, 80, 81, 82, 83, 152, 153, 154, 155, 156, 157, 158] (by decide +kernel) (by decide +kernel)
set_option maxRecDepth 20000 in
theorem gX11_init_X7_init : GoodIn wsX11_init (wsX7_init) := ggX11_init_X7_init
set_option maxRecDepth 20000 in
theorem ggX11_init_X3_init : GoodIn wsX11_init wsX3_init := goodIn_r _ [86, 87, 2, 3, 88, 89, 49, 90, 91, 81, 92, 93, 94, 159, 160, 161, 162, 163, 164, 165, 166, 167, 168] (by decide +kernel) (by decide +kernel)
set_option maxRecDepth 20000 in
theorem gX11_init_X3_init : GoodIn wsX11_init (wsX3_init) := ggX11_init_X3_init
set_option maxRecDepth 20000 in
theorem ggX11_init_X6_init : GoodIn wsX11_init wsX6_init := goodIn_r _ [97, 98, 2, 3, 99, 100, 49, 101, 102, 169, 170, 171, 172, 173, 174] (by decide +kernel) (by decide +kernel)
set_option maxRecDepth 20000 in
theorem gX11_init_X6_init : GoodIn wsX11_init (wsX6_init) := ggX11_init_X6_init
set_option maxRecDepth 20000 in
theorem ggX11_init_X5_init : GoodIn wsX11_init wsX5_init := goodIn_r _ [105, 106, 2, 3, 107, 108, 109, 110, 175, 176, 177, 178] (by decide +kernel) (by decide +kernel)
set_option maxRecDepth 20000 in
theorem gX11_init_X5_init : GoodIn wsX11_init (wsX5_init) := ggX11_init_X5_init
set_option maxRecDepth 20000 in
theorem ggX11_init_X9_init : GoodIn wsX11_init wsX9_init := goodIn_r _ [113, 114, 2, 3, 115, 49, 116, 117, 9, 10, 118, 119, 63, 64, 65, 66, 57, 58, 59, 67, 179, 180, 181, 147, 148] (by decide +kernel) (by decide +kernel)
set_option maxRecDepth 20000 in
theorem gX11_init_X9_init : GoodIn wsX11_init (wsX9_init) := ggX11_init_X9_init
set_option maxRecDepth 20000 in
theorem ggX11_init_X4_init : GoodIn wsX11_init wsX4_init := goodIn_r _ [122, 123, 2, 3, 81, 124, 125, 182, 183, 184] (by decide +kernel) (by decide +kernel)
set_option maxRecDepth 20000 in
theorem gX11_init_X4_init : GoodIn wsX11_init (wsX4_init) := ggX11_init_X4_init
theorem dX11_init_0 : decode cX11_init 0 = .ok (.aload_n 0, 1) := by decide +kernel
theorem dX11_init_1 : decode cX11_init 1 = .ok (.invokespecial 1, 3) := by decide +kernel
theorem dX11_init_4 : decode cX11_init 4 = .ok (.aload_n 0, 1) := by decide +kernel
theorem dX11_init_5 : decode cX11_init 5 = .ok (.new 7, 3) := by decide +kernel
theorem dX11_init_8 : decode cX11_init 8 = .ok (.dup, 1) := by decide +kernel
theorem dX11_init_9 : decode cX11_init 9 = .ok (.iconst 2, 1) := by decide +kernel
theorem dX11_init_10 : decode cX11_init 10 = .ok (.invokespecial 11, 3) := by decide +kernel
theorem dX11_init_13 : decode cX11_init 13 = .ok (.putfield 14, 3) := by decide +kernel
theorem dX11_init_16 : decode cX11_init 16 = .ok (.aload_n 0, 1) := by decide +kernel
theorem dX11_init_17 : decode cX11_init 17 = .ok (.new 18, 3) := by decide +kernel
theorem dX11_init_20 : decode cX11_init 20 = .ok (.dup, 1) := by decide +kernel
theorem dX11_init_21 : decode cX11_init 21 = .ok (.bipush 60, 2) := by decide +kernel
theorem dX11_init_23 : decode cX11_init 23 = .ok (.invokespecial 20, 3) := by decide +kernel
theorem dX11_init_26 : decode cX11_init 26 = .ok (.putfield 21, 3) := by decide +kernel
theorem dX11_init_29 : decode cX11_init 29 = .ok (.aload_n 0, 1) := by decide +kernel
theorem dX11_init_30 : decode cX11_init 30 = .ok (.bipush 8, 2) := by decide +kernel
theorem dX11_init_32 : decode cX11_init 32 = .ok (.anewarray 18, 3) := by decide +kernel
theorem dX11_init_35 : decode cX11_init 35 = .ok (.putfield 25, 3) := by decide +kernel
theorem dX11_init_38 : decode cX11_init 38 = .ok (.iconst 0, 1) := by decide +kernel
theorem dX11_init_39 : decode cX11_init 39 = .ok (.istore_n 1, 1) := by decide +kernel
theorem dX11_init_40 : decode cX11_init 40 = .ok (.iload_n 1, 1) := by decide +kernel
theorem dX11_init_41 : decode cX11_init 41 = .ok (.bipush 8, 2) := by decide +kernel
theorem dX11_init_43 : decode cX11_init 43 = .ok (.if_icmp .ge 24, 3) := by decide +kernel
theorem dX11_init_46 : decode cX11_init 46 = .ok (.aload_n 0, 1) := by decide +kernel
theorem dX11_init_47 : decode cX11_init 47 = .ok (.getfield 25, 3) := by decide +kernel
theorem dX11_init_50 : decode cX11_init 50 = .ok (.iload_n 1, 1) := by decide +kernel
theorem dX11_init_51 : decode cX11_init 51 = .ok (.new 18, 3) := by decide +kernel
theorem dX11_init_54 : decode cX11_init 54 = .ok (.dup, 1) := by decide +kernel
theorem dX11_init_55 : decode cX11_init 55 = .ok (.bipush 60, 2) := by decide +kernel
theorem dX11_init_57 : decode cX11_init 57 = .ok (.invokespecial 20, 3) := by decide +kernel
theorem dX11_init_60 : decode cX11_init 60 = .ok (.aastore, 1) := by decide +kernel
theorem dX11_init_61 : decode cX11_init 61 = .ok (.iinc 1 1, 3) := by decide +kernel
theorem dX11_init_64 : decode cX11_init 64 = .ok (.goto (-24), 3) := by decide +kernel
theorem dX11_init_67 : decode cX11_init 67 = .ok (.aload_n 0, 1) := by decide +kernel
theorem dX11_init_68 : decode cX11_init 68 = .ok (.bipush 16, 2) := by decide +kernel
theorem dX11_init_70 : decode cX11_init 70 = .ok (.anewarray 18, 3) := by decide +kernel
theorem dX11_init_73 : decode cX11_init 73 = .ok (.putfield 29, 3) := by decide +kernel
theorem dX11_init_76 : decode cX11_init 76 = .ok (.iconst 0, 1) := by decide +kernel
theorem dX11_init_77 : decode cX11_init 77 = .ok (.istore_n 1, 1) := by decide +kernel
theorem dX11_init_78 : decode cX11_init 78 = .ok (.iload_n 1, 1) := by decide +kernel
theorem dX11_init_79 : decode cX11_init 79 = .ok (.bipush 16, 2) := by decide +kernel
theorem dX11_init_81 : decode cX11_init 81 = .ok (.if_icmp .ge 24, 3) := by decide +kernel
theorem dX11_init_84 : decode cX11_init 84 = .ok (.aload_n 0, 1) := by decide +kernel
theorem dX11_init_85 : decode cX11_init 85 = .ok (.getfield 29, 3) := by decide +kernel
theorem dX11_init_88 : decode cX11_init 88 = .ok (.iload_n 1, 1) := by decide +kernel
theorem dX11_init_89 : decode cX11_init 89 = .ok (.new 18, 3) := by decide +kernel
theorem dX11_init_92 : decode cX11_init 92 = .ok (.dup, 1) := by decide +kernel
theorem dX11_init_93 : decode cX11_init 93 = .ok (.bipush 12, 2) := by decide +kernel
theorem dX11_init_95 : decode cX11_init 95 = .ok (.invokespecial 20, 3) := by decide +kernel
theorem dX11_init_98 : decode cX11_init 98 = .ok (.aastore, 1) := by decide +kernel
theorem dX11_init_99 : decode cX11_init 99 = .ok (.iinc 1 1, 3) := by decide +kernel
theorem dX11_init_102 : decode cX11_init 102 = .ok (.goto (-24), 3) := by decide +kernel
theorem dX11_init_105 : decode cX11_init 105 = .ok (.aload_n 0, 1) := by decide +kernel
theorem dX11_init_106 : decode cX11_init 106 = .ok (.new 32, 3) := by decide +kernel
theorem dX11_init_109 : decode cX11_init 109 = .ok (.dup, 1) := by decide +kernel
theorem dX11_init_110 : decode cX11_init 110 = .ok (.invokespecial 34, 3) := by decide +kernel
theorem dX11_init_113 : decode cX11_init 113 = .ok (.putfield 35, 3) := by decide +kernel
theorem dX11_init_116 : decode cX11_init 116 = .ok (.aload_n 0, 1) := by decide +kernel
theorem dX11_init_117 : decode cX11_init 117 = .ok (.new 39, 3) := by decide +kernel
theorem dX11_init_120 : decode cX11_init 120 = .ok (.dup, 1) := by decide +kernel
theorem dX11_init_121 : decode cX11_init 121 = .ok (.aload_n 0, 1) := by decide +kernel
theorem dX11_init_122 : decode cX11_init 122 = .ok (.getfield 14, 3) := by decide +kernel
theorem dX11_init_125 : decode cX11_init 125 = .ok (.invokespecial 41, 3) := by decide +kernel
theorem dX11_init_128 : decode cX11_init 128 = .ok (.putfield 44, 3) := by decide +kernel
theorem dX11_init_131 : decode cX11_init 131 = .ok (.aload_n 0, 1) := by decide +kernel
theorem dX11_init_132 : decode cX11_init 132 = .ok (.new 48, 3) := by decide +kernel
theorem dX11_init_135 : decode cX11_init 135 = .ok (.dup, 1) := by decide +kernel
theorem dX11_init_136 : decode cX11_init 136 = .ok (.aload_n 0, 1) := by decide +kernel
theorem dX11_init_137 : decode cX11_init 137 = .ok (.getfield 14, 3) := by decide +kernel
theorem dX11_init_140 : decode cX11_init 140 = .ok (.aload_n 0, 1) := by decide +kernel
theorem dX11_init_141 : decode cX11_init 141 = .ok (.getfield 44, 3) := by decide +kernel
theorem dX11_init_144 : decode cX11_init 144 = .ok (.invokespecial 50, 3) := by decide +kernel
theorem dX11_init_147 : decode cX11_init 147 = .ok (.putfield 53, 3) := by decide +kernel
theorem dX11_init_150 : decode cX11_init 150 = .ok (.aload_n 0, 1) := by decide +kernel
theorem dX11_init_151 : decode cX11_init 151 = .ok (.new 57, 3) := by decide +kernel
theorem dX11_init_154 : decode cX11_init 154 = .ok (.dup, 1) := by decide +kernel
theorem dX11_init_155 : decode cX11_init 155 = .ok (.aload_n 0, 1) := by decide +kernel
theorem dX11_init_156 : decode cX11_init 156 = .ok (.getfield 44, 3) := by decide +kernel
theorem dX11_init_159 : decode cX11_init 159 = .ok (.aload_n 0, 1) := by decide +kernel
theorem dX11_init_160 : decode cX11_init 160 = .ok (.getfield 53, 3) := by decide +kernel
theorem dX11_init_163 : decode cX11_init 163 = .ok (.invokespecial 59, 3) := by decide +kernel
theorem dX11_init_166 : decode cX11_init 166 = .ok (.putfield 62, 3) := by decide +kernel
theorem dX11_init_169 : decode cX11_init 169 = .ok (.aload_n 0, 1) := by decide +kernel
theorem dX11_init_170 : decode cX11_init 170 = .ok (.new 18, 3) := by decide +kernel
theorem dX11_init_173 : decode cX11_init 173 = .ok (.dup, 1) := by decide +kernel
theorem dX11_init_174 : decode cX11_init 174 = .ok (.bipush 60, 2) := by decide +kernel
theorem dX11_init_176 : decode cX11_init 176 = .ok (.invokespecial 20, 3) := by decide +kernel
theorem dX11_init_179 : decode cX11_init 179 = .ok (.putfield 66, 3) := by decide +kernel
theorem dX11_init_182 : decode cX11_init 182 = .ok (.aload_n 0, 1) := by decide +kernel
theorem dX11_init_183 : decode cX11_init 183 = .ok (.new 18, 3) := by decide +kernel
theorem dX11_init_186 : decode cX11_init 186 = .ok (.dup, 1) := by decide +kernel
theorem dX11_init_187 : decode cX11_init 187 = .ok (.bipush 60, 2) := by decide +kernel
theorem dX11_init_189 : decode cX11_init 189 = .ok (.invokespecial 20, 3) := by decide +kernel
theorem dX11_init_192 : decode cX11_init 192 = .ok (.putfield 69, 3) := by decide +kernel
theorem dX11_init_195 : decode cX11_init 195 = .ok (.aload_n 0, 1) := by decide +kernel
theorem dX11_init_196 : decode cX11_init 196 = .ok (.new 18, 3) := by decide +kernel
theorem dX11_init_199 : decode cX11_init 199 = .ok (.dup, 1) := by decide +kernel
theorem dX11_init_200 : decode cX11_init 200 = .ok (.bipush 60, 2) := by decide +kernel
theorem dX11_init_202 : decode cX11_init 202 = .ok (.invokespecial 20, 3) := by decide +kernel
theorem dX11_init_205 : decode cX11_init 205 = .ok (.putfield 72, 3) := by decide +kernel
theorem dX11_init_208 : decode cX11_init 208 = .ok (.aload_n 0, 1) := by decide +kernel
theorem dX11_init_209 : decode cX11_init 209 = .ok (.new 75, 3) := by decide +kernel
theorem dX11_init_212 : decode cX11_init 212 = .ok (.dup, 1) := by decide +kernel
theorem dX11_init_213 : decode cX11_init 213 = .ok (.aload_n 0, 1) := by decide +kernel
theorem dX11_init_214 : decode cX11_init 214 = .ok (.getfield 44, 3) := by decide +kernel
theorem dX11_init_217 : decode cX11_init 217 = .ok (.aload_n 0, 1) := by decide +kernel
theorem dX11_init_218 : decode cX11_init 218 = .ok (.getfield 62, 3) := by decide +kernel
theorem dX11_init_221 : decode cX11_init 221 = .ok (.aload_n 0, 1) := by decide +kernel
theorem dX11_init_222 : decode cX11_init 222 = .ok (.getfield 66, 3) := by decide +kernel
theorem dX11_init_225 : decode cX11_init 225 = .ok (.aload_n 0, 1) := by decide +kernel
theorem dX11_init_226 : decode cX11_init 226 = .ok (.getfield 69, 3) := by decide +kernel
theorem dX11_init_229 : decode cX11_init 229 = .ok (.invokespecial 77, 3) := by decide +kernel
theorem dX11_init_232 : decode cX11_init 232 = .ok (.putfield 80, 3) := by decide +kernel
theorem dX11_init_235 : decode cX11_init 235 = .ok (.aload_n 0, 1) := by decide +kernel
theorem dX11_init_236 : decode cX11_init 236 = .ok (.new 84, 3) := by decide +kernel
theorem dX11_init_239 : decode cX11_init 239 = .ok (.dup, 1) := by decide +kernel
theorem dX11_init_240 : decode cX11_init 240 = .ok (.aload_n 0, 1) := by decide +kernel
theorem dX11_init_241 : decode cX11_init 241 = .ok (.getfield 53, 3) := by decide +kernel
theorem dX11_init_244 : decode cX11_init 244 = .ok (.invokespecial 86, 3) := by decide +kernel
theorem dX11_init_247 : decode cX11_init 247 = .ok (.putfield 89, 3) := by decide +kernel
theorem dX11_init_250 : decode cX11_init 250 = .ok (.aload_n 0, 1) := by decide +kernel
theorem dX11_init_251 : decode cX11_init 251 = .ok (.new 93, 3) := by decide +kernel
theorem dX11_init_254 : decode cX11_init 254 = .ok (.dup, 1) := by decide +kernel
theorem dX11_init_255 : decode cX11_init 255 = .ok (.invokespecial 95, 3) := by decide +kernel
theorem dX11_init_258 : decode cX11_init 258 = .ok (.putfield 96, 3) := by decide +kernel
theorem dX11_init_261 : decode cX11_init 261 = .ok (.return_, 1) := by decide +kernel
