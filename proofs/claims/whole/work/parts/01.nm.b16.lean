set_option maxRecDepth 20000 in
theorem ggX5_encloses_X7_spanOf : GoodIn wsX5_encloses wsX7_spanOf := goodIn_r _ [8, 9, 10, 44, 45, 46, 47, 48, 49, 50] (by decide +kernel) (by decide +kernel)
set_option maxRecDepth 20000 in
theorem gX5_encloses_X7_spanOf : GoodIn wsX5_encloses (wsV RX5 40 RX7 yX7_spanOf wsX7_spanOf) := goodIn_app (goodIn_of _ (by decide +kernel)) ggX5_encloses_X7_spanOf
set_option maxRecDepth 20000 in
theorem ggX5_encloses_X7_leftPart : GoodIn wsX5_encloses wsX7_leftPart := goodIn_r _ [14, 15, 9, 44, 45, 46, 47, 48, 49, 50] (by decide +kernel) (by decide +kernel)
set_option maxRecDepth 20000 in
theorem gX5_encloses_X7_leftPart : GoodIn wsX5_encloses (wsV RX5 51 RX7 yX7_leftPart wsX7_leftPart) := goodIn_app (goodIn_of _ (by decide +kernel)) ggX5_encloses_X7_leftPart
set_option maxRecDepth 20000 in
theorem ggX5_encloses_X10_wipe : GoodIn wsX5_encloses wsX10_wipe := goodIn_r _ [20, 21, 51, 52] (by decide +kernel) (by decide +kernel)
set_option maxRecDepth 20000 in
theorem gX5_encloses_X10_wipe : GoodIn wsX5_encloses (wsV RX5 55 RX10 yX10_wipe wsX10_wipe) := goodIn_app (goodIn_of _ (by decide +kernel)) ggX5_encloses_X10_wipe
set_option maxRecDepth 20000 in
theorem ggX5_encloses_X7_copy : GoodIn wsX5_encloses wsX7_copy := goodIn_r _ [25, 26, 27, 28, 29, 30, 31, 32, 7, 33, 9, 10, 15, 34, 35, 36, 37, 19, 38, 21, 39, 44, 45, 46, 47, 48, 49, 50, 51, 52] (by decide +kernel) (by decide +kernel)
set_option maxRecDepth 20000 in
theorem gX5_encloses_X7_copy : GoodIn wsX5_encloses (wsV RX5 58 RX7 yX7_copy wsX7_copy) := goodIn_app (goodIn_of _ (by decide +kernel)) ggX5_encloses_X7_copy
theorem dX5_encloses_0 : decode cX5_encloses 0 = .ok (.aload_n 0, 1) := by decide +kernel
theorem dX5_encloses_1 : decode cX5_encloses 1 = .ok (.getfield 7, 3) := by decide +kernel
theorem dX5_encloses_4 : decode cX5_encloses 4 = .ok (.iload_n 2, 1) := by decide +kernel
theorem dX5_encloses_5 : decode cX5_encloses 5 = .ok (.iconst 1, 1) := by decide +kernel
theorem dX5_encloses_6 : decode cX5_encloses 6 = .ok (.invokevirtual 40, 3) := by decide +kernel
theorem dX5_encloses_9 : decode cX5_encloses 9 = .ok (.istore 4, 2) := by decide +kernel
theorem dX5_encloses_11 : decode cX5_encloses 11 = .ok (.aload_n 0, 1) := by decide +kernel
theorem dX5_encloses_12 : decode cX5_encloses 12 = .ok (.getfield 7, 3) := by decide +kernel
theorem dX5_encloses_15 : decode cX5_encloses 15 = .ok (.iload_n 1, 1) := by decide +kernel
theorem dX5_encloses_16 : decode cX5_encloses 16 = .ok (.iload_n 3, 1) := by decide +kernel
theorem dX5_encloses_17 : decode cX5_encloses 17 = .ok (.iload_n 3, 1) := by decide +kernel
theorem dX5_encloses_18 : decode cX5_encloses 18 = .ok (.iload 4, 2) := by decide +kernel
theorem dX5_encloses_20 : decode cX5_encloses 20 = .ok (.iadd, 1) := by decide +kernel
theorem dX5_encloses_21 : decode cX5_encloses 21 = .ok (.invokevirtual 51, 3) := by decide +kernel
theorem dX5_encloses_24 : decode cX5_encloses 24 = .ok (.aload_n 0, 1) := by decide +kernel
theorem dX5_encloses_25 : decode cX5_encloses 25 = .ok (.getfield 7, 3) := by decide +kernel
theorem dX5_encloses_28 : decode cX5_encloses 28 = .ok (.iload_n 2, 1) := by decide +kernel
theorem dX5_encloses_29 : decode cX5_encloses 29 = .ok (.iconst 0, 1) := by decide +kernel
theorem dX5_encloses_30 : decode cX5_encloses 30 = .ok (.iload 4, 2) := by decide +kernel
theorem dX5_encloses_32 : decode cX5_encloses 32 = .ok (.invokevirtual 51, 3) := by decide +kernel
theorem dX5_encloses_35 : decode cX5_encloses 35 = .ok (.lcmp, 1) := by decide +kernel
theorem dX5_encloses_36 : decode cX5_encloses 36 = .ok (.ifCond .eq 5, 3) := by decide +kernel
theorem dX5_encloses_39 : decode cX5_encloses 39 = .ok (.iconst 0, 1) := by decide +kernel
theorem dX5_encloses_40 : decode cX5_encloses 40 = .ok (.ireturn, 1) := by decide +kernel
theorem dX5_encloses_41 : decode cX5_encloses 41 = .ok (.aload_n 0, 1) := by decide +kernel
theorem dX5_encloses_42 : decode cX5_encloses 42 = .ok (.getfield 17, 3) := by decide +kernel
theorem dX5_encloses_45 : decode cX5_encloses 45 = .ok (.invokevirtual 55, 3) := by decide +kernel
theorem dX5_encloses_48 : decode cX5_encloses 48 = .ok (.aload_n 0, 1) := by decide +kernel
theorem dX5_encloses_49 : decode cX5_encloses 49 = .ok (.getfield 7, 3) := by decide +kernel
theorem dX5_encloses_52 : decode cX5_encloses 52 = .ok (.iload_n 1, 1) := by decide +kernel
theorem dX5_encloses_53 : decode cX5_encloses 53 = .ok (.iconst 0, 1) := by decide +kernel
theorem dX5_encloses_54 : decode cX5_encloses 54 = .ok (.iconst 0, 1) := by decide +kernel
theorem dX5_encloses_55 : decode cX5_encloses 55 = .ok (.aload_n 0, 1) := by decide +kernel
theorem dX5_encloses_56 : decode cX5_encloses 56 = .ok (.getfield 7, 3) := by decide +kernel
theorem dX5_encloses_59 : decode cX5_encloses 59 = .ok (.iload_n 1, 1) := by decide +kernel
theorem dX5_encloses_60 : decode cX5_encloses 60 = .ok (.iconst 0, 1) := by decide +kernel
theorem dX5_encloses_61 : decode cX5_encloses 61 = .ok (.invokevirtual 40, 3) := by decide +kernel
theorem dX5_encloses_64 : decode cX5_encloses 64 = .ok (.aload_n 0, 1) := by decide +kernel
theorem dX5_encloses_65 : decode cX5_encloses 65 = .ok (.getfield 17, 3) := by decide +kernel
theorem dX5_encloses_68 : decode cX5_encloses 68 = .ok (.invokevirtual 58, 3) := by decide +kernel
theorem dX5_encloses_71 : decode cX5_encloses 71 = .ok (.aload_n 0, 1) := by decide +kernel
theorem dX5_encloses_72 : decode cX5_encloses 72 = .ok (.getfield 21, 3) := by decide +kernel
theorem dX5_encloses_75 : decode cX5_encloses 75 = .ok (.invokevirtual 55, 3) := by decide +kernel
theorem dX5_encloses_78 : decode cX5_encloses 78 = .ok (.aload_n 0, 1) := by decide +kernel
theorem dX5_encloses_79 : decode cX5_encloses 79 = .ok (.getfield 7, 3) := by decide +kernel
theorem dX5_encloses_82 : decode cX5_encloses 82 = .ok (.iload_n 1, 1) := by decide +kernel
theorem dX5_encloses_83 : decode cX5_encloses 83 = .ok (.iconst 1, 1) := by decide +kernel
theorem dX5_encloses_84 : decode cX5_encloses 84 = .ok (.iconst 0, 1) := by decide +kernel
theorem dX5_encloses_85 : decode cX5_encloses 85 = .ok (.iload_n 3, 1) := by decide +kernel
theorem dX5_encloses_86 : decode cX5_encloses 86 = .ok (.aload_n 0, 1) := by decide +kernel
theorem dX5_encloses_87 : decode cX5_encloses 87 = .ok (.getfield 21, 3) := by decide +kernel
theorem dX5_encloses_90 : decode cX5_encloses 90 = .ok (.invokevirtual 58, 3) := by decide +kernel
theorem dX5_encloses_93 : decode cX5_encloses 93 = .ok (.aload_n 0, 1) := by decide +kernel
theorem dX5_encloses_94 : decode cX5_encloses 94 = .ok (.getfield 7, 3) := by decide +kernel
theorem dX5_encloses_97 : decode cX5_encloses 97 = .ok (.iload_n 2, 1) := by decide +kernel
theorem dX5_encloses_98 : decode cX5_encloses 98 = .ok (.iconst 0, 1) := by decide +kernel
theorem dX5_encloses_99 : decode cX5_encloses 99 = .ok (.iconst 0, 1) := by decide +kernel
theorem dX5_encloses_100 : decode cX5_encloses 100 = .ok (.aload_n 0, 1) := by decide +kernel
theorem dX5_encloses_101 : decode cX5_encloses 101 = .ok (.getfield 7, 3) := by decide +kernel
theorem dX5_encloses_104 : decode cX5_encloses 104 = .ok (.iload_n 2, 1) := by decide +kernel
theorem dX5_encloses_105 : decode cX5_encloses 105 = .ok (.iconst 0, 1) := by decide +kernel
theorem dX5_encloses_106 : decode cX5_encloses 106 = .ok (.invokevirtual 40, 3) := by decide +kernel
theorem dX5_encloses_109 : decode cX5_encloses 109 = .ok (.aload_n 0, 1) := by decide +kernel
theorem dX5_encloses_110 : decode cX5_encloses 110 = .ok (.getfield 21, 3) := by decide +kernel
theorem dX5_encloses_113 : decode cX5_encloses 113 = .ok (.invokevirtual 58, 3) := by decide +kernel
theorem dX5_encloses_116 : decode cX5_encloses 116 = .ok (.aload_n 0, 1) := by decide +kernel
theorem dX5_encloses_117 : decode cX5_encloses 117 = .ok (.getfield 7, 3) := by decide +kernel
theorem dX5_encloses_120 : decode cX5_encloses 120 = .ok (.iload_n 1, 1) := by decide +kernel
theorem dX5_encloses_121 : decode cX5_encloses 121 = .ok (.iconst 1, 1) := by decide +kernel
theorem dX5_encloses_122 : decode cX5_encloses 122 = .ok (.iload_n 3, 1) := by decide +kernel
theorem dX5_encloses_123 : decode cX5_encloses 123 = .ok (.iload 4, 2) := by decide +kernel
theorem dX5_encloses_125 : decode cX5_encloses 125 = .ok (.iadd, 1) := by decide +kernel
theorem dX5_encloses_126 : decode cX5_encloses 126 = .ok (.aload_n 0, 1) := by decide +kernel
theorem dX5_encloses_127 : decode cX5_encloses 127 = .ok (.getfield 7, 3) := by decide +kernel
theorem dX5_encloses_130 : decode cX5_encloses 130 = .ok (.iload_n 1, 1) := by decide +kernel
theorem dX5_encloses_131 : decode cX5_encloses 131 = .ok (.iconst 1, 1) := by decide +kernel
theorem dX5_encloses_132 : decode cX5_encloses 132 = .ok (.invokevirtual 40, 3) := by decide +kernel
theorem dX5_encloses_135 : decode cX5_encloses 135 = .ok (.aload_n 0, 1) := by decide +kernel
theorem dX5_encloses_136 : decode cX5_encloses 136 = .ok (.getfield 21, 3) := by decide +kernel
theorem dX5_encloses_139 : decode cX5_encloses 139 = .ok (.invokevirtual 58, 3) := by decide +kernel
theorem dX5_encloses_142 : decode cX5_encloses 142 = .ok (.iconst 1, 1) := by decide +kernel
theorem dX5_encloses_143 : decode cX5_encloses 143 = .ok (.ireturn, 1) := by decide +kernel
set_option maxRecDepth 20000 in
theorem ggX5_holds_X10_take : GoodIn wsX5_holds wsX10_take := goodIn_r _ [9, 10, 11, 12, 13, 14, 15, 289, 290] (by decide +kernel) (by decide +kernel)
set_option maxRecDepth 20000 in
theorem gX5_holds_X10_take : GoodIn wsX5_holds (wsV RX5 24 RX10 yX10_take wsX10_take) := goodIn_app (goodIn_of _ (by decide +kernel)) ggX5_holds_X10_take
set_option maxRecDepth 20000 in
theorem ggX5_holds_X5_agree : GoodIn wsX5_holds wsX5_agree := goodIn_r _ [20, 21, 1, 2, 22, 23, 24, 25, 26, 27, 28, 29, 13, 14, 15, 30, 31, 32, 33, 34, 35, 36, 37, 38, 39, 40, 8, 41, 10, 42, 43, 44, 45, 46, 47, 48, 49, 50, 51, 52, 53, 54, 55, 56, 57, 58, 59, 60, 61, 62, 63, 64, 65, 66, 67, 68, 69, 70, 71, 72, 73, 74, 75, 76, 11, 77, 78, 79, 80, 81, 82, 83, 84, 85, 86, 87, 88, 89, 90, 91, 92, 93, 94, 95, 96, 97, 98, 99, 100, 101, 102, 103, 104, 105, 106, 107, 108, 109, 110, 111, 112, 113, 114, 115, 116, 117, 118, 119, 120, 121, 122, 123, 124, 125, 126, 127, 128, 129, 130, 131, 132, 133, 134, 135, 136, 137, 138, 139, 140, 141, 142, 143, 144, 145, 146, 147, 148, 149, 150, 151, 152, 153, 154, 155, 156, 157, 158, 159, 160, 161, 162, 163, 164, 165, 166, 167, 168, 169, 170, 171, 172, 173, 174, 175, 176, 177, 178, 179, 180, 181, 182, 183, 184, 185, 186, 187, 188, 189, 190, 191, 192, 193, 6, 7, 9, 12, 194, 195, 196, 197, 198, 199, 200, 201, 202, 203, 204, 205, 206, 207, 208, 209, 210, 211, 212, 213, 214, 215, 216, 217, 218, 219, 220, 221, 222, 223, 224, 225, 226, 227, 228, 229, 230, 231, 232, 233, 234, 235, 236, 237, 238, 239, 240, 241, 242, 243, 244, 245, 246, 247, 248, 249, 250, 251, 252, 253, 254, 255, 256, 278, 279, 280, 281, 291, 292, 293, 294, 295, 296, 289, 290, 297, 298, 299, 300, 301, 302, 303, 304, 305, 306, 307, 308, 309, 310, 311, 312, 313, 314, 315, 316, 317, 318, 319, 320, 321, 322, 323, 324, 325, 282, 283, 284, 285, 286, 287, 288, 326, 327, 328, 329, 330, 331, 332] rfl (by decide +kernel)
set_option maxRecDepth 20000 in
theorem gX5_holds_X5_agree : GoodIn wsX5_holds (wsV RX5 30 RX5 yX5_agree wsX5_agree) := goodIn_app (goodIn_of _ (by decide +kernel)) ggX5_holds_X5_agree
set_option maxRecDepth 20000 in
theorem ggX5_holds_X7_spanOf : GoodIn wsX5_holds wsX7_spanOf := goodIn_r _ [64, 65, 66, 282, 283, 284, 285, 286, 287, 288] (by decide +kernel) (by decide +kernel)
set_option maxRecDepth 20000 in
theorem gX5_holds_X7_spanOf : GoodIn wsX5_holds (wsV RX5 40 RX7 yX7_spanOf wsX7_spanOf) := goodIn_app (goodIn_of _ (by decide +kernel)) ggX5_holds_X7_spanOf
set_option maxRecDepth 20000 in
theorem ggX5_holds_X5_meets : GoodIn wsX5_holds wsX5_meets := goodIn_r _ [261, 3, 1, 2, 257, 61, 62, 63, 64, 65, 66, 262, 263, 264, 265, 71, 266, 39, 40, 8, 41, 10, 267, 268, 269, 270, 271, 109, 14, 110, 272, 68, 69, 70, 72, 273, 74, 75, 76, 11, 278, 279, 280, 281, 282, 283, 284, 285, 286, 287, 288, 289, 290] rfl (by decide +kernel)
set_option maxRecDepth 20000 in
theorem gX5_holds_X5_meets : GoodIn wsX5_holds (wsV RX5 44 RX5 yX5_meets wsX5_meets) := goodIn_app (goodIn_of _ (by decide +kernel)) ggX5_holds_X5_meets
set_option maxRecDepth 20000 in
theorem ggX5_holds_X5_encloses : GoodIn wsX5_holds wsX5_encloses := goodIn_r _ [277, 3, 1, 2, 257, 61, 62, 63, 64, 65, 66, 262, 263, 264, 265, 71, 266, 39, 40, 8, 41, 10, 267, 268, 269, 270, 271, 109, 14, 110, 272, 68, 69, 70, 72, 273, 74, 75, 76, 11, 278, 279, 280, 281, 282, 283, 284, 285, 286, 287, 288, 289, 290] rfl (by decide +kernel)
set_option maxRecDepth 20000 in
theorem gX5_holds_X5_encloses : GoodIn wsX5_holds (wsV RX5 48 RX5 yX5_encloses wsX5_encloses) := goodIn_app (goodIn_of _ (by decide +kernel)) ggX5_holds_X5_encloses
theorem dX5_holds_0 : decode cX5_holds 0 = .ok (.iconst 0, 1) := by decide +kernel
theorem dX5_holds_1 : decode cX5_holds 1 = .ok (.istore_n 3, 1) := by decide +kernel
theorem dX5_holds_2 : decode cX5_holds 2 = .ok (.iload_n 3, 1) := by decide +kernel
theorem dX5_holds_3 : decode cX5_holds 3 = .ok (.iload_n 2, 1) := by decide +kernel
theorem dX5_holds_4 : decode cX5_holds 4 = .ok (.if_icmp .ge 54, 3) := by decide +kernel
theorem dX5_holds_7 : decode cX5_holds 7 = .ok (.iconst 2, 1) := by decide +kernel
theorem dX5_holds_8 : decode cX5_holds 8 = .ok (.iload_n 3, 1) := by decide +kernel
theorem dX5_holds_9 : decode cX5_holds 9 = .ok (.imul, 1) := by decide +kernel
theorem dX5_holds_10 : decode cX5_holds 10 = .ok (.iconst 1, 1) := by decide +kernel
theorem dX5_holds_11 : decode cX5_holds 11 = .ok (.iadd, 1) := by decide +kernel
theorem dX5_holds_12 : decode cX5_holds 12 = .ok (.aload_n 1, 1) := by decide +kernel
theorem dX5_holds_13 : decode cX5_holds 13 = .ok (.arraylength, 1) := by decide +kernel
theorem dX5_holds_14 : decode cX5_holds 14 = .ok (.if_icmp .ge 44, 3) := by decide +kernel
theorem dX5_holds_17 : decode cX5_holds 17 = .ok (.aload_n 0, 1) := by decide +kernel
theorem dX5_holds_18 : decode cX5_holds 18 = .ok (.getfield 17, 3) := by decide +kernel
theorem dX5_holds_21 : decode cX5_holds 21 = .ok (.aload_n 1, 1) := by decide +kernel
theorem dX5_holds_22 : decode cX5_holds 22 = .ok (.iconst 2, 1) := by decide +kernel
theorem dX5_holds_23 : decode cX5_holds 23 = .ok (.iload_n 3, 1) := by decide +kernel
theorem dX5_holds_24 : decode cX5_holds 24 = .ok (.imul, 1) := by decide +kernel
theorem dX5_holds_25 : decode cX5_holds 25 = .ok (.aaload, 1) := by decide +kernel
theorem dX5_holds_26 : decode cX5_holds 26 = .ok (.invokevirtual 24, 3) := by decide +kernel
theorem dX5_holds_29 : decode cX5_holds 29 = .ok (.aload_n 0, 1) := by decide +kernel
theorem dX5_holds_30 : decode cX5_holds 30 = .ok (.getfield 21, 3) := by decide +kernel
theorem dX5_holds_33 : decode cX5_holds 33 = .ok (.aload_n 1, 1) := by decide +kernel
theorem dX5_holds_34 : decode cX5_holds 34 = .ok (.iconst 2, 1) := by decide +kernel
theorem dX5_holds_35 : decode cX5_holds 35 = .ok (.iload_n 3, 1) := by decide +kernel
theorem dX5_holds_36 : decode cX5_holds 36 = .ok (.imul, 1) := by decide +kernel
theorem dX5_holds_37 : decode cX5_holds 37 = .ok (.iconst 1, 1) := by decide +kernel
theorem dX5_holds_38 : decode cX5_holds 38 = .ok (.iadd, 1) := by decide +kernel
theorem dX5_holds_39 : decode cX5_holds 39 = .ok (.aaload, 1) := by decide +kernel
theorem dX5_holds_40 : decode cX5_holds 40 = .ok (.invokevirtual 24, 3) := by decide +kernel
theorem dX5_holds_43 : decode cX5_holds 43 = .ok (.aload_n 0, 1) := by decide +kernel
theorem dX5_holds_44 : decode cX5_holds 44 = .ok (.invokevirtual 30, 3) := by decide +kernel
theorem dX5_holds_47 : decode cX5_holds 47 = .ok (.ifCond .ne 5, 3) := by decide +kernel
theorem dX5_holds_50 : decode cX5_holds 50 = .ok (.iconst 0, 1) := by decide +kernel
theorem dX5_holds_51 : decode cX5_holds 51 = .ok (.ireturn, 1) := by decide +kernel
theorem dX5_holds_52 : decode cX5_holds 52 = .ok (.iinc 3 1, 3) := by decide +kernel
theorem dX5_holds_55 : decode cX5_holds 55 = .ok (.goto (-53), 3) := by decide +kernel
theorem dX5_holds_58 : decode cX5_holds 58 = .ok (.iconst 0, 1) := by decide +kernel
theorem dX5_holds_59 : decode cX5_holds 59 = .ok (.istore_n 3, 1) := by decide +kernel
theorem dX5_holds_60 : decode cX5_holds 60 = .ok (.iload_n 3, 1) := by decide +kernel
theorem dX5_holds_61 : decode cX5_holds 61 = .ok (.aload_n 0, 1) := by decide +kernel
theorem dX5_holds_62 : decode cX5_holds 62 = .ok (.getfield 7, 3) := by decide +kernel
theorem dX5_holds_65 : decode cX5_holds 65 = .ok (.getfield 34, 3) := by decide +kernel
theorem dX5_holds_68 : decode cX5_holds 68 = .ok (.if_icmp .ge 143, 3) := by decide +kernel
theorem dX5_holds_71 : decode cX5_holds 71 = .ok (.aload_n 0, 1) := by decide +kernel
theorem dX5_holds_72 : decode cX5_holds 72 = .ok (.getfield 7, 3) := by decide +kernel
theorem dX5_holds_75 : decode cX5_holds 75 = .ok (.iload_n 3, 1) := by decide +kernel
theorem dX5_holds_76 : decode cX5_holds 76 = .ok (.iconst 1, 1) := by decide +kernel
theorem dX5_holds_77 : decode cX5_holds 77 = .ok (.invokevirtual 40, 3) := by decide +kernel
theorem dX5_holds_80 : decode cX5_holds 80 = .ok (.istore 4, 2) := by decide +kernel
theorem dX5_holds_82 : decode cX5_holds 82 = .ok (.iconst 0, 1) := by decide +kernel
theorem dX5_holds_83 : decode cX5_holds 83 = .ok (.istore 5, 2) := by decide +kernel
theorem dX5_holds_85 : decode cX5_holds 85 = .ok (.iload 5, 2) := by decide +kernel
theorem dX5_holds_87 : decode cX5_holds 87 = .ok (.aload_n 0, 1) := by decide +kernel
theorem dX5_holds_88 : decode cX5_holds 88 = .ok (.getfield 7, 3) := by decide +kernel
theorem dX5_holds_91 : decode cX5_holds 91 = .ok (.getfield 34, 3) := by decide +kernel
theorem dX5_holds_94 : decode cX5_holds 94 = .ok (.if_icmp .ge 111, 3) := by decide +kernel
theorem dX5_holds_97 : decode cX5_holds 97 = .ok (.aload_n 0, 1) := by decide +kernel
theorem dX5_holds_98 : decode cX5_holds 98 = .ok (.getfield 7, 3) := by decide +kernel
theorem dX5_holds_101 : decode cX5_holds 101 = .ok (.iload 5, 2) := by decide +kernel
theorem dX5_holds_103 : decode cX5_holds 103 = .ok (.iconst 1, 1) := by decide +kernel
theorem dX5_holds_104 : decode cX5_holds 104 = .ok (.invokevirtual 40, 3) := by decide +kernel
theorem dX5_holds_107 : decode cX5_holds 107 = .ok (.istore 6, 2) := by decide +kernel
theorem dX5_holds_109 : decode cX5_holds 109 = .ok (.iconst 1, 1) := by decide +kernel
theorem dX5_holds_110 : decode cX5_holds 110 = .ok (.istore 7, 2) := by decide +kernel
theorem dX5_holds_112 : decode cX5_holds 112 = .ok (.iload 7, 2) := by decide +kernel
theorem dX5_holds_114 : decode cX5_holds 114 = .ok (.iload 4, 2) := by decide +kernel
theorem dX5_holds_116 : decode cX5_holds 116 = .ok (.if_icmp .ge 37, 3) := by decide +kernel
theorem dX5_holds_119 : decode cX5_holds 119 = .ok (.iload 7, 2) := by decide +kernel
theorem dX5_holds_121 : decode cX5_holds 121 = .ok (.iload 6, 2) := by decide +kernel
theorem dX5_holds_123 : decode cX5_holds 123 = .ok (.if_icmp .ge 30, 3) := by decide +kernel
theorem dX5_holds_126 : decode cX5_holds 126 = .ok (.aload_n 0, 1) := by decide +kernel
theorem dX5_holds_127 : decode cX5_holds 127 = .ok (.iload_n 3, 1) := by decide +kernel
theorem dX5_holds_128 : decode cX5_holds 128 = .ok (.iload 5, 2) := by decide +kernel
theorem dX5_holds_130 : decode cX5_holds 130 = .ok (.iload 7, 2) := by decide +kernel
theorem dX5_holds_132 : decode cX5_holds 132 = .ok (.invokevirtual 44, 3) := by decide +kernel
theorem dX5_holds_135 : decode cX5_holds 135 = .ok (.ifCond .eq 12, 3) := by decide +kernel
theorem dX5_holds_138 : decode cX5_holds 138 = .ok (.aload_n 0, 1) := by decide +kernel
theorem dX5_holds_139 : decode cX5_holds 139 = .ok (.invokevirtual 30, 3) := by decide +kernel
theorem dX5_holds_142 : decode cX5_holds 142 = .ok (.ifCond .ne 5, 3) := by decide +kernel
theorem dX5_holds_145 : decode cX5_holds 145 = .ok (.iconst 0, 1) := by decide +kernel
theorem dX5_holds_146 : decode cX5_holds 146 = .ok (.ireturn, 1) := by decide +kernel
theorem dX5_holds_147 : decode cX5_holds 147 = .ok (.iinc 7 1, 3) := by decide +kernel
theorem dX5_holds_150 : decode cX5_holds 150 = .ok (.goto (-38), 3) := by decide +kernel
theorem dX5_holds_153 : decode cX5_holds 153 = .ok (.iconst 0, 1) := by decide +kernel
theorem dX5_holds_154 : decode cX5_holds 154 = .ok (.istore 7, 2) := by decide +kernel
theorem dX5_holds_156 : decode cX5_holds 156 = .ok (.iload_n 3, 1) := by decide +kernel
theorem dX5_holds_157 : decode cX5_holds 157 = .ok (.iload 5, 2) := by decide +kernel
theorem dX5_holds_159 : decode cX5_holds 159 = .ok (.if_icmp .eq 40, 3) := by decide +kernel
theorem dX5_holds_162 : decode cX5_holds 162 = .ok (.iload 7, 2) := by decide +kernel
theorem dX5_holds_164 : decode cX5_holds 164 = .ok (.iload 6, 2) := by decide +kernel
theorem dX5_holds_166 : decode cX5_holds 166 = .ok (.iadd, 1) := by decide +kernel
theorem dX5_holds_167 : decode cX5_holds 167 = .ok (.iload 4, 2) := by decide +kernel
theorem dX5_holds_169 : decode cX5_holds 169 = .ok (.if_icmp .gt 30, 3) := by decide +kernel
theorem dX5_holds_172 : decode cX5_holds 172 = .ok (.aload_n 0, 1) := by decide +kernel
theorem dX5_holds_173 : decode cX5_holds 173 = .ok (.iload_n 3, 1) := by decide +kernel
theorem dX5_holds_174 : decode cX5_holds 174 = .ok (.iload 5, 2) := by decide +kernel
theorem dX5_holds_176 : decode cX5_holds 176 = .ok (.iload 7, 2) := by decide +kernel
theorem dX5_holds_178 : decode cX5_holds 178 = .ok (.invokevirtual 48, 3) := by decide +kernel
theorem dX5_holds_181 : decode cX5_holds 181 = .ok (.ifCond .eq 12, 3) := by decide +kernel
theorem dX5_holds_184 : decode cX5_holds 184 = .ok (.aload_n 0, 1) := by decide +kernel
theorem dX5_holds_185 : decode cX5_holds 185 = .ok (.invokevirtual 30, 3) := by decide +kernel
theorem dX5_holds_188 : decode cX5_holds 188 = .ok (.ifCond .ne 5, 3) := by decide +kernel
theorem dX5_holds_191 : decode cX5_holds 191 = .ok (.iconst 0, 1) := by decide +kernel
theorem dX5_holds_192 : decode cX5_holds 192 = .ok (.ireturn, 1) := by decide +kernel
theorem dX5_holds_193 : decode cX5_holds 193 = .ok (.iinc 7 1, 3) := by decide +kernel
theorem dX5_holds_196 : decode cX5_holds 196 = .ok (.goto (-40), 3) := by decide +kernel
theorem dX5_holds_199 : decode cX5_holds 199 = .ok (.iinc 5 1, 3) := by decide +kernel
theorem dX5_holds_202 : decode cX5_holds 202 = .ok (.goto (-117), 3) := by decide +kernel
theorem dX5_holds_205 : decode cX5_holds 205 = .ok (.iinc 3 1, 3) := by decide +kernel
theorem dX5_holds_208 : decode cX5_holds 208 = .ok (.goto (-148), 3) := by decide +kernel
theorem dX5_holds_211 : decode cX5_holds 211 = .ok (.iconst 1, 1) := by decide +kernel
theorem dX5_holds_212 : decode cX5_holds 212 = .ok (.ireturn, 1) := by decide +kernel
theorem dX5_init_0 : decode cX5_init 0 = .ok (.aload_n 0, 1) := by decide +kernel
theorem dX5_init_1 : decode cX5_init 1 = .ok (.invokespecial 1, 3) := by decide +kernel
theorem dX5_init_4 : decode cX5_init 4 = .ok (.aload_n 0, 1) := by decide +kernel
theorem dX5_init_5 : decode cX5_init 5 = .ok (.aload_n 1, 1) := by decide +kernel
theorem dX5_init_6 : decode cX5_init 6 = .ok (.putfield 7, 3) := by decide +kernel
theorem dX5_init_9 : decode cX5_init 9 = .ok (.aload_n 0, 1) := by decide +kernel
theorem dX5_init_10 : decode cX5_init 10 = .ok (.aload_n 2, 1) := by decide +kernel
theorem dX5_init_11 : decode cX5_init 11 = .ok (.putfield 13, 3) := by decide +kernel
theorem dX5_init_14 : decode cX5_init 14 = .ok (.aload_n 0, 1) := by decide +kernel
theorem dX5_init_15 : decode cX5_init 15 = .ok (.aload_n 3, 1) := by decide +kernel
theorem dX5_init_16 : decode cX5_init 16 = .ok (.putfield 17, 3) := by decide +kernel
theorem dX5_init_19 : decode cX5_init 19 = .ok (.aload_n 0, 1) := by decide +kernel
theorem dX5_init_20 : decode cX5_init 20 = .ok (.aload 4, 2) := by decide +kernel
theorem dX5_init_22 : decode cX5_init 22 = .ok (.putfield 21, 3) := by decide +kernel
theorem dX5_init_25 : decode cX5_init 25 = .ok (.return_, 1) := by decide +kernel
set_option maxRecDepth 20000 in
theorem ggX5_meets_X7_spanOf : GoodIn wsX5_meets wsX7_spanOf := goodIn_r _ [8, 9, 10, 44, 45, 46, 47, 48, 49, 50] (by decide +kernel) (by decide +kernel)
set_option maxRecDepth 20000 in
theorem gX5_meets_X7_spanOf : GoodIn wsX5_meets (wsV RX5 40 RX7 yX7_spanOf wsX7_spanOf) := goodIn_app (goodIn_of _ (by decide +kernel)) ggX5_meets_X7_spanOf
set_option maxRecDepth 20000 in
theorem ggX5_meets_X7_leftPart : GoodIn wsX5_meets wsX7_leftPart := goodIn_r _ [14, 15, 9, 44, 45, 46, 47, 48, 49, 50] (by decide +kernel) (by decide +kernel)
set_option maxRecDepth 20000 in
theorem gX5_meets_X7_leftPart : GoodIn wsX5_meets (wsV RX5 51 RX7 yX7_leftPart wsX7_leftPart) := goodIn_app (goodIn_of _ (by decide +kernel)) ggX5_meets_X7_leftPart
set_option maxRecDepth 20000 in
theorem ggX5_meets_X10_wipe : GoodIn wsX5_meets wsX10_wipe := goodIn_r _ [20, 21, 51, 52] (by decide +kernel) (by decide +kernel)
set_option maxRecDepth 20000 in
theorem gX5_meets_X10_wipe : GoodIn wsX5_meets (wsV RX5 55 RX10 yX10_wipe wsX10_wipe) := goodIn_app (goodIn_of _ (by decide +kernel)) ggX5_meets_X10_wipe
set_option maxRecDepth 20000 in
theorem ggX5_meets_X7_copy : GoodIn wsX5_meets wsX7_copy := goodIn_r _ [25, 26, 27, 28, 29, 30, 31, 32, 7, 33, 9, 10, 15, 34, 35, 36, 37, 19, 38, 21, 39, 44, 45, 46, 47, 48, 49, 50, 51, 52] (by decide +kernel) (by decide +kernel)
set_option maxRecDepth 20000 in
theorem gX5_meets_X7_copy : GoodIn wsX5_meets (wsV RX5 58 RX7 yX7_copy wsX7_copy) := goodIn_app (goodIn_of _ (by decide +kernel)) ggX5_meets_X7_copy
theorem dX5_meets_0 : decode cX5_meets 0 = .ok (.aload_n 0, 1) := by decide +kernel
theorem dX5_meets_1 : decode cX5_meets 1 = .ok (.getfield 7, 3) := by decide +kernel
theorem dX5_meets_4 : decode cX5_meets 4 = .ok (.iload_n 1, 1) := by decide +kernel
theorem dX5_meets_5 : decode cX5_meets 5 = .ok (.iconst 1, 1) := by decide +kernel
theorem dX5_meets_6 : decode cX5_meets 6 = .ok (.invokevirtual 40, 3) := by decide +kernel
theorem dX5_meets_9 : decode cX5_meets 9 = .ok (.istore 4, 2) := by decide +kernel
theorem dX5_meets_11 : decode cX5_meets 11 = .ok (.aload_n 0, 1) := by decide +kernel
theorem dX5_meets_12 : decode cX5_meets 12 = .ok (.getfield 7, 3) := by decide +kernel
theorem dX5_meets_15 : decode cX5_meets 15 = .ok (.iload_n 1, 1) := by decide +kernel
theorem dX5_meets_16 : decode cX5_meets 16 = .ok (.iload 4, 2) := by decide +kernel
theorem dX5_meets_18 : decode cX5_meets 18 = .ok (.iload_n 3, 1) := by decide +kernel
theorem dX5_meets_19 : decode cX5_meets 19 = .ok (.isub, 1) := by decide +kernel
theorem dX5_meets_20 : decode cX5_meets 20 = .ok (.iload 4, 2) := by decide +kernel
theorem dX5_meets_22 : decode cX5_meets 22 = .ok (.invokevirtual 51, 3) := by decide +kernel
theorem dX5_meets_25 : decode cX5_meets 25 = .ok (.aload_n 0, 1) := by decide +kernel
theorem dX5_meets_26 : decode cX5_meets 26 = .ok (.getfield 7, 3) := by decide +kernel
theorem dX5_meets_29 : decode cX5_meets 29 = .ok (.iload_n 2, 1) := by decide +kernel
theorem dX5_meets_30 : decode cX5_meets 30 = .ok (.iconst 0, 1) := by decide +kernel
theorem dX5_meets_31 : decode cX5_meets 31 = .ok (.iload_n 3, 1) := by decide +kernel
theorem dX5_meets_32 : decode cX5_meets 32 = .ok (.invokevirtual 51, 3) := by decide +kernel
theorem dX5_meets_35 : decode cX5_meets 35 = .ok (.lcmp, 1) := by decide +kernel
theorem dX5_meets_36 : decode cX5_meets 36 = .ok (.ifCond .eq 5, 3) := by decide +kernel
theorem dX5_meets_39 : decode cX5_meets 39 = .ok (.iconst 0, 1) := by decide +kernel
theorem dX5_meets_40 : decode cX5_meets 40 = .ok (.ireturn, 1) := by decide +kernel
theorem dX5_meets_41 : decode cX5_meets 41 = .ok (.aload_n 0, 1) := by decide +kernel
theorem dX5_meets_42 : decode cX5_meets 42 = .ok (.getfield 17, 3) := by decide +kernel
theorem dX5_meets_45 : decode cX5_meets 45 = .ok (.invokevirtual 55, 3) := by decide +kernel
theorem dX5_meets_48 : decode cX5_meets 48 = .ok (.aload_n 0, 1) := by decide +kernel
theorem dX5_meets_49 : decode cX5_meets 49 = .ok (.getfield 7, 3) := by decide +kernel
theorem dX5_meets_52 : decode cX5_meets 52 = .ok (.iload_n 1, 1) := by decide +kernel
theorem dX5_meets_53 : decode cX5_meets 53 = .ok (.iconst 0, 1) := by decide +kernel
theorem dX5_meets_54 : decode cX5_meets 54 = .ok (.iconst 0, 1) := by decide +kernel
theorem dX5_meets_55 : decode cX5_meets 55 = .ok (.aload_n 0, 1) := by decide +kernel
theorem dX5_meets_56 : decode cX5_meets 56 = .ok (.getfield 7, 3) := by decide +kernel
theorem dX5_meets_59 : decode cX5_meets 59 = .ok (.iload_n 1, 1) := by decide +kernel
theorem dX5_meets_60 : decode cX5_meets 60 = .ok (.iconst 0, 1) := by decide +kernel
theorem dX5_meets_61 : decode cX5_meets 61 = .ok (.invokevirtual 40, 3) := by decide +kernel
theorem dX5_meets_64 : decode cX5_meets 64 = .ok (.aload_n 0, 1) := by decide +kernel
theorem dX5_meets_65 : decode cX5_meets 65 = .ok (.getfield 17, 3) := by decide +kernel
theorem dX5_meets_68 : decode cX5_meets 68 = .ok (.invokevirtual 58, 3) := by decide +kernel
theorem dX5_meets_71 : decode cX5_meets 71 = .ok (.aload_n 0, 1) := by decide +kernel
theorem dX5_meets_72 : decode cX5_meets 72 = .ok (.getfield 7, 3) := by decide +kernel
theorem dX5_meets_75 : decode cX5_meets 75 = .ok (.iload_n 2, 1) := by decide +kernel
theorem dX5_meets_76 : decode cX5_meets 76 = .ok (.iconst 1, 1) := by decide +kernel
theorem dX5_meets_77 : decode cX5_meets 77 = .ok (.iload_n 3, 1) := by decide +kernel
theorem dX5_meets_78 : decode cX5_meets 78 = .ok (.aload_n 0, 1) := by decide +kernel
theorem dX5_meets_79 : decode cX5_meets 79 = .ok (.getfield 7, 3) := by decide +kernel
theorem dX5_meets_82 : decode cX5_meets 82 = .ok (.iload_n 2, 1) := by decide +kernel
theorem dX5_meets_83 : decode cX5_meets 83 = .ok (.iconst 1, 1) := by decide +kernel
theorem dX5_meets_84 : decode cX5_meets 84 = .ok (.invokevirtual 40, 3) := by decide +kernel
theorem dX5_meets_87 : decode cX5_meets 87 = .ok (.aload_n 0, 1) := by decide +kernel
theorem dX5_meets_88 : decode cX5_meets 88 = .ok (.getfield 17, 3) := by decide +kernel
theorem dX5_meets_91 : decode cX5_meets 91 = .ok (.invokevirtual 58, 3) := by decide +kernel
theorem dX5_meets_94 : decode cX5_meets 94 = .ok (.aload_n 0, 1) := by decide +kernel
theorem dX5_meets_95 : decode cX5_meets 95 = .ok (.getfield 21, 3) := by decide +kernel
theorem dX5_meets_98 : decode cX5_meets 98 = .ok (.invokevirtual 55, 3) := by decide +kernel
theorem dX5_meets_101 : decode cX5_meets 101 = .ok (.aload_n 0, 1) := by decide +kernel
theorem dX5_meets_102 : decode cX5_meets 102 = .ok (.getfield 7, 3) := by decide +kernel
theorem dX5_meets_105 : decode cX5_meets 105 = .ok (.iload_n 1, 1) := by decide +kernel
theorem dX5_meets_106 : decode cX5_meets 106 = .ok (.iconst 1, 1) := by decide +kernel
theorem dX5_meets_107 : decode cX5_meets 107 = .ok (.iconst 0, 1) := by decide +kernel
theorem dX5_meets_108 : decode cX5_meets 108 = .ok (.iload 4, 2) := by decide +kernel
theorem dX5_meets_110 : decode cX5_meets 110 = .ok (.iload_n 3, 1) := by decide +kernel
theorem dX5_meets_111 : decode cX5_meets 111 = .ok (.isub, 1) := by decide +kernel
theorem dX5_meets_112 : decode cX5_meets 112 = .ok (.aload_n 0, 1) := by decide +kernel
theorem dX5_meets_113 : decode cX5_meets 113 = .ok (.getfield 21, 3) := by decide +kernel
theorem dX5_meets_116 : decode cX5_meets 116 = .ok (.invokevirtual 58, 3) := by decide +kernel
theorem dX5_meets_119 : decode cX5_meets 119 = .ok (.aload_n 0, 1) := by decide +kernel
theorem dX5_meets_120 : decode cX5_meets 120 = .ok (.getfield 7, 3) := by decide +kernel
theorem dX5_meets_123 : decode cX5_meets 123 = .ok (.iload_n 2, 1) := by decide +kernel
theorem dX5_meets_124 : decode cX5_meets 124 = .ok (.iconst 0, 1) := by decide +kernel
theorem dX5_meets_125 : decode cX5_meets 125 = .ok (.iconst 0, 1) := by decide +kernel
theorem dX5_meets_126 : decode cX5_meets 126 = .ok (.aload_n 0, 1) := by decide +kernel
theorem dX5_meets_127 : decode cX5_meets 127 = .ok (.getfield 7, 3) := by decide +kernel
theorem dX5_meets_130 : decode cX5_meets 130 = .ok (.iload_n 2, 1) := by decide +kernel
theorem dX5_meets_131 : decode cX5_meets 131 = .ok (.iconst 0, 1) := by decide +kernel
theorem dX5_meets_132 : decode cX5_meets 132 = .ok (.invokevirtual 40, 3) := by decide +kernel
theorem dX5_meets_135 : decode cX5_meets 135 = .ok (.aload_n 0, 1) := by decide +kernel
theorem dX5_meets_136 : decode cX5_meets 136 = .ok (.getfield 21, 3) := by decide +kernel
theorem dX5_meets_139 : decode cX5_meets 139 = .ok (.invokevirtual 58, 3) := by decide +kernel
theorem dX5_meets_142 : decode cX5_meets 142 = .ok (.iconst 1, 1) := by decide +kernel
theorem dX5_meets_143 : decode cX5_meets 143 = .ok (.ireturn, 1) := by decide +kernel
set_option maxRecDepth 20000 in
theorem ggX6_forget_X2_wipe : GoodIn wsX6_forget wsX2_wipe := goodIn_r _ [7, 8, 9, 31, 32, 33, 34, 35, 36, 37] (by decide +kernel) (by decide +kernel)
set_option maxRecDepth 20000 in
theorem gX6_forget_X2_wipe : GoodIn wsX6_forget (wsV RX6 36 RX2 yX2_wipe wsX2_wipe) := goodIn_app (goodIn_of _ (by decide +kernel)) ggX6_forget_X2_wipe
theorem dX6_forget_0 : decode cX6_forget 0 = .ok (.aload_n 0, 1) := by decide +kernel
theorem dX6_forget_1 : decode cX6_forget 1 = .ok (.getfield 26, 3) := by decide +kernel
theorem dX6_forget_4 : decode cX6_forget 4 = .ok (.ifnull 13, 3) := by decide +kernel
theorem dX6_forget_7 : decode cX6_forget 7 = .ok (.aload_n 0, 1) := by decide +kernel
theorem dX6_forget_8 : decode cX6_forget 8 = .ok (.getfield 26, 3) := by decide +kernel
theorem dX6_forget_11 : decode cX6_forget 11 = .ok (.getfield 30, 3) := by decide +kernel
theorem dX6_forget_14 : decode cX6_forget 14 = .ok (.invokevirtual 36, 3) := by decide +kernel
theorem dX6_forget_17 : decode cX6_forget 17 = .ok (.return_, 1) := by decide +kernel
theorem dX6_init_0 : decode cX6_init 0 = .ok (.aload_n 0, 1) := by decide +kernel
theorem dX6_init_1 : decode cX6_init 1 = .ok (.invokespecial 3, 3) := by decide +kernel
theorem dX6_init_4 : decode cX6_init 4 = .ok (.aload_n 0, 1) := by decide +kernel
theorem dX6_init_5 : decode cX6_init 5 = .ok (.aload_n 1, 1) := by decide +kernel
theorem dX6_init_6 : decode cX6_init 6 = .ok (.putfield 9, 3) := by decide +kernel
theorem dX6_init_9 : decode cX6_init 9 = .ok (.aload_n 0, 1) := by decide +kernel
theorem dX6_init_10 : decode cX6_init 10 = .ok (.aload_n 2, 1) := by decide +kernel
theorem dX6_init_11 : decode cX6_init 11 = .ok (.putfield 15, 3) := by decide +kernel
theorem dX6_init_14 : decode cX6_init 14 = .ok (.aload_n 0, 1) := by decide +kernel
theorem dX6_init_15 : decode cX6_init 15 = .ok (.bipush 60, 2) := by decide +kernel
theorem dX6_init_17 : decode cX6_init 17 = .ok (.newarray .int, 2) := by decide +kernel
theorem dX6_init_19 : decode cX6_init 19 = .ok (.putfield 19, 3) := by decide +kernel
theorem dX6_init_22 : decode cX6_init 22 = .ok (.aload_n 0, 1) := by decide +kernel
theorem dX6_init_23 : decode cX6_init 23 = .ok (.bipush 61, 2) := by decide +kernel
theorem dX6_init_25 : decode cX6_init 25 = .ok (.newarray .int, 2) := by decide +kernel
theorem dX6_init_27 : decode cX6_init 27 = .ok (.putfield 23, 3) := by decide +kernel
theorem dX6_init_30 : decode cX6_init 30 = .ok (.return_, 1) := by decide +kernel
set_option maxRecDepth 20000 in
theorem ggX6_putRestBack_X10_push : GoodIn wsX6_putRestBack wsX10_push := goodIn_r _ [7, 8, 9, 16, 17] (by decide +kernel) (by decide +kernel)
set_option maxRecDepth 20000 in
theorem gX6_putRestBack_X10_push : GoodIn wsX6_putRestBack (wsV RX6 82 RX10 yX10_push wsX10_push) := goodIn_app (goodIn_of _ (by decide +kernel)) ggX6_putRestBack_X10_push
theorem dX6_putRestBack_0 : decode cX6_putRestBack 0 = .ok (.aload_n 0, 1) := by decide +kernel
theorem dX6_putRestBack_1 : decode cX6_putRestBack 1 = .ok (.getfield 41, 3) := by decide +kernel
theorem dX6_putRestBack_4 : decode cX6_putRestBack 4 = .ok (.iconst 1, 1) := by decide +kernel
theorem dX6_putRestBack_5 : decode cX6_putRestBack 5 = .ok (.isub, 1) := by decide +kernel
theorem dX6_putRestBack_6 : decode cX6_putRestBack 6 = .ok (.istore_n 2, 1) := by decide +kernel
theorem dX6_putRestBack_7 : decode cX6_putRestBack 7 = .ok (.iload_n 2, 1) := by decide +kernel
theorem dX6_putRestBack_8 : decode cX6_putRestBack 8 = .ok (.ifCond .lt 24, 3) := by decide +kernel
theorem dX6_putRestBack_11 : decode cX6_putRestBack 11 = .ok (.aload_n 1, 1) := by decide +kernel
theorem dX6_putRestBack_12 : decode cX6_putRestBack 12 = .ok (.aload_n 0, 1) := by decide +kernel
theorem dX6_putRestBack_13 : decode cX6_putRestBack 13 = .ok (.getfield 19, 3) := by decide +kernel
theorem dX6_putRestBack_16 : decode cX6_putRestBack 16 = .ok (.iload_n 2, 1) := by decide +kernel
theorem dX6_putRestBack_17 : decode cX6_putRestBack 17 = .ok (.iaload, 1) := by decide +kernel
theorem dX6_putRestBack_18 : decode cX6_putRestBack 18 = .ok (.invokevirtual 82, 3) := by decide +kernel
theorem dX6_putRestBack_21 : decode cX6_putRestBack 21 = .ok (.ifCond .ne 5, 3) := by decide +kernel
theorem dX6_putRestBack_24 : decode cX6_putRestBack 24 = .ok (.iconst 0, 1) := by decide +kernel
theorem dX6_putRestBack_25 : decode cX6_putRestBack 25 = .ok (.ireturn, 1) := by decide +kernel
theorem dX6_putRestBack_26 : decode cX6_putRestBack 26 = .ok (.iinc 2 (-1), 3) := by decide +kernel
theorem dX6_putRestBack_29 : decode cX6_putRestBack 29 = .ok (.goto (-22), 3) := by decide +kernel
theorem dX6_putRestBack_32 : decode cX6_putRestBack 32 = .ok (.iconst 1, 1) := by decide +kernel
theorem dX6_putRestBack_33 : decode cX6_putRestBack 33 = .ok (.ireturn, 1) := by decide +kernel
set_option maxRecDepth 20000 in
theorem ggX6_readOn_X3_step : GoodIn wsX6_readOn wsX3_step := goodIn_r _ [10, 11, 12, 13, 14, 49, 50, 51, 52, 53, 54, 55, 56, 57, 58, 59, 60, 61, 62] (by decide +kernel) (by decide +kernel)
set_option maxRecDepth 20000 in
theorem gX6_readOn_X3_step : GoodIn wsX6_readOn (wsV RX6 73 RX3 yX3_step wsX3_step) := goodIn_app (goodIn_of _ (by decide +kernel)) ggX6_readOn_X3_step
set_option maxRecDepth 20000 in
theorem ggX6_readOn_X6_replace : GoodIn wsX6_readOn wsX6_replace := goodIn_r _ [19, 5, 20, 1, 2, 21, 22, 23, 24, 25, 26, 27, 28, 29, 30, 31, 32, 33, 47, 48, 41, 42, 43, 44, 45, 46, 63, 64, 65, 66, 67, 68, 69] (by decide +kernel) (by decide +kernel)
set_option maxRecDepth 20000 in
theorem gX6_readOn_X6_replace : GoodIn wsX6_readOn (wsV RX6 78 RX6 yX6_replace wsX6_replace) := goodIn_app (goodIn_of _ (by decide +kernel)) ggX6_readOn_X6_replace
set_option maxRecDepth 20000 in
theorem ggX6_readOn_X10_push : GoodIn wsX6_readOn wsX10_push := goodIn_r _ [38, 39, 40, 47, 48] (by decide +kernel) (by decide +kernel)
set_option maxRecDepth 20000 in
theorem gX6_readOn_X10_push : GoodIn wsX6_readOn (wsV RX6 82 RX10 yX10_push wsX10_push) := goodIn_app (goodIn_of _ (by decide +kernel)) ggX6_readOn_X10_push
theorem dX6_readOn_0 : decode cX6_readOn 0 = .ok (.iconst 0, 1) := by decide +kernel
theorem dX6_readOn_1 : decode cX6_readOn 1 = .ok (.istore_n 2, 1) := by decide +kernel
theorem dX6_readOn_2 : decode cX6_readOn 2 = .ok (.iload_n 2, 1) := by decide +kernel
theorem dX6_readOn_3 : decode cX6_readOn 3 = .ok (.sipush 20000, 3) := by decide +kernel
theorem dX6_readOn_6 : decode cX6_readOn 6 = .ok (.if_icmp .ge 99, 3) := by decide +kernel
theorem dX6_readOn_9 : decode cX6_readOn 9 = .ok (.aload_n 0, 1) := by decide +kernel
theorem dX6_readOn_10 : decode cX6_readOn 10 = .ok (.getfield 41, 3) := by decide +kernel
theorem dX6_readOn_13 : decode cX6_readOn 13 = .ok (.ifCond .le 92, 3) := by decide +kernel
theorem dX6_readOn_16 : decode cX6_readOn 16 = .ok (.aload_n 0, 1) := by decide +kernel
theorem dX6_readOn_17 : decode cX6_readOn 17 = .ok (.getfield 19, 3) := by decide +kernel
theorem dX6_readOn_20 : decode cX6_readOn 20 = .ok (.aload_n 0, 1) := by decide +kernel
theorem dX6_readOn_21 : decode cX6_readOn 21 = .ok (.dup, 1) := by decide +kernel
theorem dX6_readOn_22 : decode cX6_readOn 22 = .ok (.getfield 41, 3) := by decide +kernel
theorem dX6_readOn_25 : decode cX6_readOn 25 = .ok (.iconst 1, 1) := by decide +kernel
theorem dX6_readOn_26 : decode cX6_readOn 26 = .ok (.isub, 1) := by decide +kernel
theorem dX6_readOn_27 : decode cX6_readOn 27 = .ok (.dup_x1, 1) := by decide +kernel
theorem dX6_readOn_28 : decode cX6_readOn 28 = .ok (.putfield 41, 3) := by decide +kernel
theorem dX6_readOn_31 : decode cX6_readOn 31 = .ok (.iaload, 1) := by decide +kernel
theorem dX6_readOn_32 : decode cX6_readOn 32 = .ok (.istore_n 3, 1) := by decide +kernel
theorem dX6_readOn_33 : decode cX6_readOn 33 = .ok (.aload_n 0, 1) := by decide +kernel
theorem dX6_readOn_34 : decode cX6_readOn 34 = .ok (.getfield 15, 3) := by decide +kernel
theorem dX6_readOn_37 : decode cX6_readOn 37 = .ok (.aload_n 0, 1) := by decide +kernel
theorem dX6_readOn_38 : decode cX6_readOn 38 = .ok (.getfield 23, 3) := by decide +kernel
theorem dX6_readOn_41 : decode cX6_readOn 41 = .ok (.aload_n 1, 1) := by decide +kernel
theorem dX6_readOn_42 : decode cX6_readOn 42 = .ok (.getfield 45, 3) := by decide +kernel
theorem dX6_readOn_45 : decode cX6_readOn 45 = .ok (.iaload, 1) := by decide +kernel
theorem dX6_readOn_46 : decode cX6_readOn 46 = .ok (.iload_n 3, 1) := by decide +kernel
theorem dX6_readOn_47 : decode cX6_readOn 47 = .ok (.invokevirtual 73, 3) := by decide +kernel
theorem dX6_readOn_50 : decode cX6_readOn 50 = .ok (.istore 4, 2) := by decide +kernel
theorem dX6_readOn_52 : decode cX6_readOn 52 = .ok (.iload 4, 2) := by decide +kernel
theorem dX6_readOn_54 : decode cX6_readOn 54 = .ok (.ifCond .ge 15, 3) := by decide +kernel
theorem dX6_readOn_57 : decode cX6_readOn 57 = .ok (.aload_n 0, 1) := by decide +kernel
theorem dX6_readOn_58 : decode cX6_readOn 58 = .ok (.iconst (-1), 1) := by decide +kernel
theorem dX6_readOn_59 : decode cX6_readOn 59 = .ok (.iload 4, 2) := by decide +kernel
theorem dX6_readOn_61 : decode cX6_readOn 61 = .ok (.isub, 1) := by decide +kernel
theorem dX6_readOn_62 : decode cX6_readOn 62 = .ok (.aload_n 1, 1) := by decide +kernel
theorem dX6_readOn_63 : decode cX6_readOn 63 = .ok (.invokevirtual 78, 3) := by decide +kernel
theorem dX6_readOn_66 : decode cX6_readOn 66 = .ok (.goto 8, 3) := by decide +kernel
theorem dX6_readOn_69 : decode cX6_readOn 69 = .ok (.aload_n 1, 1) := by decide +kernel
theorem dX6_readOn_70 : decode cX6_readOn 70 = .ok (.iload_n 3, 1) := by decide +kernel
theorem dX6_readOn_71 : decode cX6_readOn 71 = .ok (.invokevirtual 82, 3) := by decide +kernel
theorem dX6_readOn_74 : decode cX6_readOn 74 = .ok (.istore 5, 2) := by decide +kernel
theorem dX6_readOn_76 : decode cX6_readOn 76 = .ok (.iload 5, 2) := by decide +kernel
theorem dX6_readOn_78 : decode cX6_readOn 78 = .ok (.ifCond .ne 5, 3) := by decide +kernel
theorem dX6_readOn_81 : decode cX6_readOn 81 = .ok (.iconst 0, 1) := by decide +kernel
theorem dX6_readOn_82 : decode cX6_readOn 82 = .ok (.ireturn, 1) := by decide +kernel
theorem dX6_readOn_83 : decode cX6_readOn 83 = .ok (.iload 4, 2) := by decide +kernel
theorem dX6_readOn_85 : decode cX6_readOn 85 = .ok (.ifCond .lt 14, 3) := by decide +kernel
theorem dX6_readOn_88 : decode cX6_readOn 88 = .ok (.aload_n 0, 1) := by decide +kernel
theorem dX6_readOn_89 : decode cX6_readOn 89 = .ok (.getfield 23, 3) := by decide +kernel
theorem dX6_readOn_92 : decode cX6_readOn 92 = .ok (.aload_n 1, 1) := by decide +kernel
theorem dX6_readOn_93 : decode cX6_readOn 93 = .ok (.getfield 45, 3) := by decide +kernel
theorem dX6_readOn_96 : decode cX6_readOn 96 = .ok (.iload 4, 2) := by decide +kernel
theorem dX6_readOn_98 : decode cX6_readOn 98 = .ok (.iastore, 1) := by decide +kernel
theorem dX6_readOn_99 : decode cX6_readOn 99 = .ok (.iinc 2 1, 3) := by decide +kernel
theorem dX6_readOn_102 : decode cX6_readOn 102 = .ok (.goto (-100), 3) := by decide +kernel
theorem dX6_readOn_105 : decode cX6_readOn 105 = .ok (.iconst 1, 1) := by decide +kernel
theorem dX6_readOn_106 : decode cX6_readOn 106 = .ok (.ireturn, 1) := by decide +kernel
set_option maxRecDepth 20000 in
theorem ggX6_replace_X7_spanOf : GoodIn wsX6_replace wsX7_spanOf := goodIn_r _ [9, 10, 11, 26, 27, 28, 29, 30, 31, 32] (by decide +kernel) (by decide +kernel)
set_option maxRecDepth 20000 in
theorem gX6_replace_X7_spanOf : GoodIn wsX6_replace (wsV RX6 86 RX7 yX7_spanOf wsX7_spanOf) := goodIn_app (goodIn_of _ (by decide +kernel)) ggX6_replace_X7_spanOf
set_option maxRecDepth 20000 in
theorem ggX6_replace_X7_signAt : GoodIn wsX6_replace wsX7_signAt := goodIn_r _ [15, 10, 11, 16, 17, 26, 27, 28, 29, 30, 31, 32] (by decide +kernel) (by decide +kernel)
set_option maxRecDepth 20000 in
theorem gX6_replace_X7_signAt : GoodIn wsX6_replace (wsV RX6 92 RX7 yX7_signAt wsX7_signAt) := goodIn_app (goodIn_of _ (by decide +kernel)) ggX6_replace_X7_signAt
theorem dX6_replace_0 : decode cX6_replace 0 = .ok (.aload_n 2, 1) := by decide +kernel
theorem dX6_replace_1 : decode cX6_replace 1 = .ok (.getfield 45, 3) := by decide +kernel
theorem dX6_replace_4 : decode cX6_replace 4 = .ok (.aload_n 0, 1) := by decide +kernel
theorem dX6_replace_5 : decode cX6_replace 5 = .ok (.getfield 9, 3) := by decide +kernel
theorem dX6_replace_8 : decode cX6_replace 8 = .ok (.iload_n 1, 1) := by decide +kernel
theorem dX6_replace_9 : decode cX6_replace 9 = .ok (.iconst 1, 1) := by decide +kernel
theorem dX6_replace_10 : decode cX6_replace 10 = .ok (.invokevirtual 86, 3) := by decide +kernel
theorem dX6_replace_13 : decode cX6_replace 13 = .ok (.iconst 1, 1) := by decide +kernel
theorem dX6_replace_14 : decode cX6_replace 14 = .ok (.isub, 1) := by decide +kernel
theorem dX6_replace_15 : decode cX6_replace 15 = .ok (.isub, 1) := by decide +kernel
theorem dX6_replace_16 : decode cX6_replace 16 = .ok (.istore_n 3, 1) := by decide +kernel
theorem dX6_replace_17 : decode cX6_replace 17 = .ok (.aload_n 0, 1) := by decide +kernel
theorem dX6_replace_18 : decode cX6_replace 18 = .ok (.getfield 9, 3) := by decide +kernel
theorem dX6_replace_21 : decode cX6_replace 21 = .ok (.iload_n 1, 1) := by decide +kernel
theorem dX6_replace_22 : decode cX6_replace 22 = .ok (.iconst 0, 1) := by decide +kernel
theorem dX6_replace_23 : decode cX6_replace 23 = .ok (.invokevirtual 86, 3) := by decide +kernel
theorem dX6_replace_26 : decode cX6_replace 26 = .ok (.istore 4, 2) := by decide +kernel
theorem dX6_replace_28 : decode cX6_replace 28 = .ok (.iload_n 3, 1) := by decide +kernel
theorem dX6_replace_29 : decode cX6_replace 29 = .ok (.ifCond .lt 17, 3) := by decide +kernel
theorem dX6_replace_32 : decode cX6_replace 32 = .ok (.iload_n 3, 1) := by decide +kernel
theorem dX6_replace_33 : decode cX6_replace 33 = .ok (.aload_n 0, 1) := by decide +kernel
theorem dX6_replace_34 : decode cX6_replace 34 = .ok (.getfield 41, 3) := by decide +kernel
theorem dX6_replace_37 : decode cX6_replace 37 = .ok (.iadd, 1) := by decide +kernel
theorem dX6_replace_38 : decode cX6_replace 38 = .ok (.iload 4, 2) := by decide +kernel
theorem dX6_replace_40 : decode cX6_replace 40 = .ok (.iadd, 1) := by decide +kernel
theorem dX6_replace_41 : decode cX6_replace 41 = .ok (.bipush 60, 2) := by decide +kernel
theorem dX6_replace_43 : decode cX6_replace 43 = .ok (.if_icmp .le 5, 3) := by decide +kernel
theorem dX6_replace_46 : decode cX6_replace 46 = .ok (.iconst 0, 1) := by decide +kernel
theorem dX6_replace_47 : decode cX6_replace 47 = .ok (.ireturn, 1) := by decide +kernel
theorem dX6_replace_48 : decode cX6_replace 48 = .ok (.aload_n 2, 1) := by decide +kernel
theorem dX6_replace_49 : decode cX6_replace 49 = .ok (.iload_n 3, 1) := by decide +kernel
theorem dX6_replace_50 : decode cX6_replace 50 = .ok (.putfield 45, 3) := by decide +kernel
theorem dX6_replace_53 : decode cX6_replace 53 = .ok (.iload 4, 2) := by decide +kernel
theorem dX6_replace_55 : decode cX6_replace 55 = .ok (.iconst 1, 1) := by decide +kernel
theorem dX6_replace_56 : decode cX6_replace 56 = .ok (.isub, 1) := by decide +kernel
theorem dX6_replace_57 : decode cX6_replace 57 = .ok (.istore 5, 2) := by decide +kernel
theorem dX6_replace_59 : decode cX6_replace 59 = .ok (.iload 5, 2) := by decide +kernel
theorem dX6_replace_61 : decode cX6_replace 61 = .ok (.ifCond .lt 36, 3) := by decide +kernel
theorem dX6_replace_64 : decode cX6_replace 64 = .ok (.aload_n 0, 1) := by decide +kernel
theorem dX6_replace_65 : decode cX6_replace 65 = .ok (.getfield 19, 3) := by decide +kernel
theorem dX6_replace_68 : decode cX6_replace 68 = .ok (.aload_n 0, 1) := by decide +kernel
theorem dX6_replace_69 : decode cX6_replace 69 = .ok (.dup, 1) := by decide +kernel
theorem dX6_replace_70 : decode cX6_replace 70 = .ok (.getfield 41, 3) := by decide +kernel
theorem dX6_replace_73 : decode cX6_replace 73 = .ok (.dup_x1, 1) := by decide +kernel
theorem dX6_replace_74 : decode cX6_replace 74 = .ok (.iconst 1, 1) := by decide +kernel
theorem dX6_replace_75 : decode cX6_replace 75 = .ok (.iadd, 1) := by decide +kernel
theorem dX6_replace_76 : decode cX6_replace 76 = .ok (.putfield 41, 3) := by decide +kernel
theorem dX6_replace_79 : decode cX6_replace 79 = .ok (.aload_n 0, 1) := by decide +kernel
theorem dX6_replace_80 : decode cX6_replace 80 = .ok (.getfield 9, 3) := by decide +kernel
theorem dX6_replace_83 : decode cX6_replace 83 = .ok (.iload_n 1, 1) := by decide +kernel
theorem dX6_replace_84 : decode cX6_replace 84 = .ok (.iconst 0, 1) := by decide +kernel
theorem dX6_replace_85 : decode cX6_replace 85 = .ok (.iload 5, 2) := by decide +kernel
theorem dX6_replace_87 : decode cX6_replace 87 = .ok (.invokevirtual 92, 3) := by decide +kernel
theorem dX6_replace_90 : decode cX6_replace 90 = .ok (.iastore, 1) := by decide +kernel
theorem dX6_replace_91 : decode cX6_replace 91 = .ok (.iinc 5 (-1), 3) := by decide +kernel
theorem dX6_replace_94 : decode cX6_replace 94 = .ok (.goto (-35), 3) := by decide +kernel
theorem dX6_replace_97 : decode cX6_replace 97 = .ok (.iconst 1, 1) := by decide +kernel
theorem dX6_replace_98 : decode cX6_replace 98 = .ok (.ireturn, 1) := by decide +kernel
