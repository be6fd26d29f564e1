set_option maxRecDepth 20000 in
theorem ggX2_take_X2_drop : GoodIn wsX2_take wsX2_drop := goodIn_r _ [7, 2, 1, 8, 9, 10, 11, 12, 13, 14] (by decide +kernel) (by decide +kernel)
set_option maxRecDepth 20000 in
theorem gX2_take_X2_drop : GoodIn wsX2_take (wsV RX2 47 RX2 yX2_drop wsX2_drop) := goodIn_app (goodIn_of _ (by decide +kernel)) ggX2_take_X2_drop
theorem dX2_take_0 : decode cX2_take 0 = .ok (.aload_n 0, 1) := by decide +kernel
theorem dX2_take_1 : decode cX2_take 1 = .ok (.lload_n 1, 1) := by decide +kernel
theorem dX2_take_2 : decode cX2_take 2 = .ok (.putfield 36, 3) := by decide +kernel
theorem dX2_take_5 : decode cX2_take 5 = .ok (.aload_n 0, 1) := by decide +kernel
theorem dX2_take_6 : decode cX2_take 6 = .ok (.lload_n 3, 1) := by decide +kernel
theorem dX2_take_7 : decode cX2_take 7 = .ok (.putfield 40, 3) := by decide +kernel
theorem dX2_take_10 : decode cX2_take 10 = .ok (.iconst 0, 1) := by decide +kernel
theorem dX2_take_11 : decode cX2_take 11 = .ok (.istore 6, 2) := by decide +kernel
theorem dX2_take_13 : decode cX2_take 13 = .ok (.iload 6, 2) := by decide +kernel
theorem dX2_take_15 : decode cX2_take 15 = .ok (.iload 5, 2) := by decide +kernel
theorem dX2_take_17 : decode cX2_take 17 = .ok (.if_icmp .ge 13, 3) := by decide +kernel
theorem dX2_take_20 : decode cX2_take 20 = .ok (.aload_n 0, 1) := by decide +kernel
theorem dX2_take_21 : decode cX2_take 21 = .ok (.invokevirtual 47, 3) := by decide +kernel
theorem dX2_take_24 : decode cX2_take 24 = .ok (.iinc 6 1, 3) := by decide +kernel
theorem dX2_take_27 : decode cX2_take 27 = .ok (.goto (-14), 3) := by decide +kernel
theorem dX2_take_30 : decode cX2_take 30 = .ok (.return_, 1) := by decide +kernel
set_option maxRecDepth 20000 in
theorem ggX2_widen_X2_makeRoom : GoodIn wsX2_widen wsX2_makeRoom := goodIn_r _ [7, 8, 1, 9, 10, 11, 12, 13, 14, 15, 16, 17, 18, 19] (by decide +kernel) (by decide +kernel)
set_option maxRecDepth 20000 in
theorem gX2_widen_X2_makeRoom : GoodIn wsX2_widen (wsV RX2 12 RX2 yX2_makeRoom wsX2_makeRoom) := goodIn_app (goodIn_of _ (by decide +kernel)) ggX2_widen_X2_makeRoom
theorem dX2_widen_0 : decode cX2_widen 0 = .ok (.aload_n 0, 1) := by decide +kernel
theorem dX2_widen_1 : decode cX2_widen 1 = .ok (.getfield 16, 3) := by decide +kernel
theorem dX2_widen_4 : decode cX2_widen 4 = .ok (.arraylength, 1) := by decide +kernel
theorem dX2_widen_5 : decode cX2_widen 5 = .ok (.ldc 33, 2) := by decide +kernel
theorem dX2_widen_7 : decode cX2_widen 7 = .ok (.if_icmp .ge 9, 3) := by decide +kernel
theorem dX2_widen_10 : decode cX2_widen 10 = .ok (.aload_n 0, 1) := by decide +kernel
theorem dX2_widen_11 : decode cX2_widen 11 = .ok (.ldc 33, 2) := by decide +kernel
theorem dX2_widen_13 : decode cX2_widen 13 = .ok (.invokevirtual 12, 3) := by decide +kernel
theorem dX2_widen_16 : decode cX2_widen 16 = .ok (.return_, 1) := by decide +kernel
theorem dX2_wipe_0 : decode cX2_wipe 0 = .ok (.iconst 0, 1) := by decide +kernel
theorem dX2_wipe_1 : decode cX2_wipe 1 = .ok (.istore_n 1, 1) := by decide +kernel
theorem dX2_wipe_2 : decode cX2_wipe 2 = .ok (.iload_n 1, 1) := by decide +kernel
theorem dX2_wipe_3 : decode cX2_wipe 3 = .ok (.aload_n 0, 1) := by decide +kernel
theorem dX2_wipe_4 : decode cX2_wipe 4 = .ok (.getfield 16, 3) := by decide +kernel
theorem dX2_wipe_7 : decode cX2_wipe 7 = .ok (.arraylength, 1) := by decide +kernel
theorem dX2_wipe_8 : decode cX2_wipe 8 = .ok (.if_icmp .ge 23, 3) := by decide +kernel
theorem dX2_wipe_11 : decode cX2_wipe 11 = .ok (.aload_n 0, 1) := by decide +kernel
theorem dX2_wipe_12 : decode cX2_wipe 12 = .ok (.getfield 29, 3) := by decide +kernel
theorem dX2_wipe_15 : decode cX2_wipe 15 = .ok (.ifCond .ne 16, 3) := by decide +kernel
theorem dX2_wipe_18 : decode cX2_wipe 18 = .ok (.aload_n 0, 1) := by decide +kernel
theorem dX2_wipe_19 : decode cX2_wipe 19 = .ok (.getfield 16, 3) := by decide +kernel
theorem dX2_wipe_22 : decode cX2_wipe 22 = .ok (.iload_n 1, 1) := by decide +kernel
theorem dX2_wipe_23 : decode cX2_wipe 23 = .ok (.lconst 0, 1) := by decide +kernel
theorem dX2_wipe_24 : decode cX2_wipe 24 = .ok (.lastore, 1) := by decide +kernel
theorem dX2_wipe_25 : decode cX2_wipe 25 = .ok (.iinc 1 1, 3) := by decide +kernel
theorem dX2_wipe_28 : decode cX2_wipe 28 = .ok (.goto (-26), 3) := by decide +kernel
theorem dX2_wipe_31 : decode cX2_wipe 31 = .ok (.aload_n 0, 1) := by decide +kernel
theorem dX2_wipe_32 : decode cX2_wipe 32 = .ok (.iconst 1, 1) := by decide +kernel
theorem dX2_wipe_33 : decode cX2_wipe 33 = .ok (.putfield 29, 3) := by decide +kernel
theorem dX2_wipe_36 : decode cX2_wipe 36 = .ok (.return_, 1) := by decide +kernel
set_option maxRecDepth 20000 in
theorem ggX3_build_X3_keep : GoodIn wsX3_build wsX3_keep := goodIn_r _ [12, 5, 1, 4, 6, 13, 14, 15, 16, 17, 18, 19, 60, 61, 62, 63, 64, 65, 66, 67, 68, 69, 77, 78, 79, 80] (by decide +kernel) (by decide +kernel)
set_option maxRecDepth 20000 in
theorem gX3_build_X3_keep : GoodIn wsX3_build (wsV RX3 45 RX3 yX3_keep wsX3_keep) := goodIn_app (goodIn_of _ (by decide +kernel)) ggX3_build_X3_keep
set_option maxRecDepth 20000 in
theorem ggX3_build_X7_spanOf : GoodIn wsX3_build wsX7_spanOf := goodIn_r _ [24, 25, 26, 70, 71, 72, 73, 74, 75, 76] (by decide +kernel) (by decide +kernel)
set_option maxRecDepth 20000 in
theorem gX3_build_X7_spanOf : GoodIn wsX3_build (wsV RX3 52 RX7 yX7_spanOf wsX7_spanOf) := goodIn_app (goodIn_of _ (by decide +kernel)) ggX3_build_X7_spanOf
set_option maxRecDepth 20000 in
theorem ggX3_build_X7_numberOfBeginning : GoodIn wsX3_build wsX7_numberOfBeginning := goodIn_r _ [30, 31, 32, 25, 33, 34, 35, 36, 37, 38, 39, 40, 41, 42, 43, 44, 70, 71, 72, 73, 74, 75, 76, 77, 78, 79, 80] (by decide +kernel) (by decide +kernel)
set_option maxRecDepth 20000 in
theorem gX3_build_X7_numberOfBeginning : GoodIn wsX3_build (wsV RX3 56 RX7 yX7_numberOfBeginning wsX7_numberOfBeginning) := goodIn_app (goodIn_of _ (by decide +kernel)) ggX3_build_X7_numberOfBeginning
set_option maxRecDepth 20000 in
theorem ggX3_build_X8_spanOf : GoodIn wsX3_build wsX8_spanOf := goodIn_r _ [48, 38, 39, 77, 78, 79, 80] (by decide +kernel) (by decide +kernel)
set_option maxRecDepth 20000 in
theorem gX3_build_X8_spanOf : GoodIn wsX3_build (wsV RX3 60 RX8 yX8_spanOf wsX8_spanOf) := goodIn_app (goodIn_of _ (by decide +kernel)) ggX3_build_X8_spanOf
set_option maxRecDepth 20000 in
theorem ggX3_build_X8_firstOf : GoodIn wsX3_build wsX8_firstOf := goodIn_r _ [37, 38, 39, 77, 78, 79, 80] (by decide +kernel) (by decide +kernel)
set_option maxRecDepth 20000 in
theorem gX3_build_X8_firstOf : GoodIn wsX3_build (wsV RX3 63 RX8 yX8_firstOf wsX8_firstOf) := goodIn_app (goodIn_of _ (by decide +kernel)) ggX3_build_X8_firstOf
set_option maxRecDepth 20000 in
theorem ggX3_build_X3_endOf : GoodIn wsX3_build wsX3_endOf := goodIn_r _ [53, 2, 4, 5, 1, 49, 34, 35, 36, 37, 38, 39, 54, 41, 42, 43, 44, 55, 56, 57, 23, 58, 31, 59, 13, 14, 15, 16, 17, 18, 19, 60, 61, 62, 63, 64, 65, 66, 67, 68, 69, 77, 78, 79, 80, 70, 71, 72, 73, 74, 75, 76] rfl (by decide +kernel)
set_option maxRecDepth 20000 in
theorem gX3_build_X3_endOf : GoodIn wsX3_build (wsV RX3 66 RX3 yX3_endOf wsX3_endOf) := goodIn_app (goodIn_of _ (by decide +kernel)) ggX3_build_X3_endOf
theorem dX3_build_0 : decode cX3_build 0 = .ok (.aload_n 0, 1) := by decide +kernel
theorem dX3_build_1 : decode cX3_build 1 = .ok (.iconst 0, 1) := by decide +kernel
theorem dX3_build_2 : decode cX3_build 2 = .ok (.putfield 36, 3) := by decide +kernel
theorem dX3_build_5 : decode cX3_build 5 = .ok (.aload_n 0, 1) := by decide +kernel
theorem dX3_build_6 : decode cX3_build 6 = .ok (.iconst 0, 1) := by decide +kernel
theorem dX3_build_7 : decode cX3_build 7 = .ok (.invokevirtual 45, 3) := by decide +kernel
theorem dX3_build_10 : decode cX3_build 10 = .ok (.iconst 0, 1) := by decide +kernel
theorem dX3_build_11 : decode cX3_build 11 = .ok (.istore_n 1, 1) := by decide +kernel
theorem dX3_build_12 : decode cX3_build 12 = .ok (.iload_n 1, 1) := by decide +kernel
theorem dX3_build_13 : decode cX3_build 13 = .ok (.aload_n 0, 1) := by decide +kernel
theorem dX3_build_14 : decode cX3_build 14 = .ok (.getfield 15, 3) := by decide +kernel
theorem dX3_build_17 : decode cX3_build 17 = .ok (.getfield 49, 3) := by decide +kernel
theorem dX3_build_20 : decode cX3_build 20 = .ok (.if_icmp .ge 45, 3) := by decide +kernel
theorem dX3_build_23 : decode cX3_build 23 = .ok (.aload_n 0, 1) := by decide +kernel
theorem dX3_build_24 : decode cX3_build 24 = .ok (.getfield 15, 3) := by decide +kernel
theorem dX3_build_27 : decode cX3_build 27 = .ok (.iload_n 1, 1) := by decide +kernel
theorem dX3_build_28 : decode cX3_build 28 = .ok (.iconst 1, 1) := by decide +kernel
theorem dX3_build_29 : decode cX3_build 29 = .ok (.invokevirtual 52, 3) := by decide +kernel
theorem dX3_build_32 : decode cX3_build 32 = .ok (.istore_n 2, 1) := by decide +kernel
theorem dX3_build_33 : decode cX3_build 33 = .ok (.iconst 1, 1) := by decide +kernel
theorem dX3_build_34 : decode cX3_build 34 = .ok (.istore_n 3, 1) := by decide +kernel
theorem dX3_build_35 : decode cX3_build 35 = .ok (.iload_n 3, 1) := by decide +kernel
theorem dX3_build_36 : decode cX3_build 36 = .ok (.iload_n 2, 1) := by decide +kernel
theorem dX3_build_37 : decode cX3_build 37 = .ok (.if_icmp .ge 22, 3) := by decide +kernel
theorem dX3_build_40 : decode cX3_build 40 = .ok (.aload_n 0, 1) := by decide +kernel
theorem dX3_build_41 : decode cX3_build 41 = .ok (.aload_n 0, 1) := by decide +kernel
theorem dX3_build_42 : decode cX3_build 42 = .ok (.getfield 15, 3) := by decide +kernel
theorem dX3_build_45 : decode cX3_build 45 = .ok (.iload_n 1, 1) := by decide +kernel
theorem dX3_build_46 : decode cX3_build 46 = .ok (.iload_n 3, 1) := by decide +kernel
theorem dX3_build_47 : decode cX3_build 47 = .ok (.invokevirtual 56, 3) := by decide +kernel
theorem dX3_build_50 : decode cX3_build 50 = .ok (.invokevirtual 45, 3) := by decide +kernel
theorem dX3_build_53 : decode cX3_build 53 = .ok (.iinc 3 1, 3) := by decide +kernel
theorem dX3_build_56 : decode cX3_build 56 = .ok (.goto (-21), 3) := by decide +kernel
theorem dX3_build_59 : decode cX3_build 59 = .ok (.iinc 1 1, 3) := by decide +kernel
theorem dX3_build_62 : decode cX3_build 62 = .ok (.goto (-50), 3) := by decide +kernel
theorem dX3_build_65 : decode cX3_build 65 = .ok (.iconst 0, 1) := by decide +kernel
theorem dX3_build_66 : decode cX3_build 66 = .ok (.istore_n 1, 1) := by decide +kernel
theorem dX3_build_67 : decode cX3_build 67 = .ok (.iload_n 1, 1) := by decide +kernel
theorem dX3_build_68 : decode cX3_build 68 = .ok (.aload_n 0, 1) := by decide +kernel
theorem dX3_build_69 : decode cX3_build 69 = .ok (.getfield 36, 3) := by decide +kernel
theorem dX3_build_72 : decode cX3_build 72 = .ok (.if_icmp .ge 96, 3) := by decide +kernel
theorem dX3_build_75 : decode cX3_build 75 = .ok (.aload_n 0, 1) := by decide +kernel
theorem dX3_build_76 : decode cX3_build 76 = .ok (.getfield 9, 3) := by decide +kernel
theorem dX3_build_79 : decode cX3_build 79 = .ok (.aload_n 0, 1) := by decide +kernel
theorem dX3_build_80 : decode cX3_build 80 = .ok (.getfield 19, 3) := by decide +kernel
theorem dX3_build_83 : decode cX3_build 83 = .ok (.iload_n 1, 1) := by decide +kernel
theorem dX3_build_84 : decode cX3_build 84 = .ok (.iaload, 1) := by decide +kernel
theorem dX3_build_85 : decode cX3_build 85 = .ok (.invokevirtual 60, 3) := by decide +kernel
theorem dX3_build_88 : decode cX3_build 88 = .ok (.istore_n 2, 1) := by decide +kernel
theorem dX3_build_89 : decode cX3_build 89 = .ok (.aload_n 0, 1) := by decide +kernel
theorem dX3_build_90 : decode cX3_build 90 = .ok (.getfield 19, 3) := by decide +kernel
theorem dX3_build_93 : decode cX3_build 93 = .ok (.iload_n 1, 1) := by decide +kernel
theorem dX3_build_94 : decode cX3_build 94 = .ok (.iaload, 1) := by decide +kernel
theorem dX3_build_95 : decode cX3_build 95 = .ok (.aload_n 0, 1) := by decide +kernel
theorem dX3_build_96 : decode cX3_build 96 = .ok (.getfield 9, 3) := by decide +kernel
theorem dX3_build_99 : decode cX3_build 99 = .ok (.iload_n 2, 1) := by decide +kernel
theorem dX3_build_100 : decode cX3_build 100 = .ok (.invokevirtual 63, 3) := by decide +kernel
theorem dX3_build_103 : decode cX3_build 103 = .ok (.isub, 1) := by decide +kernel
theorem dX3_build_104 : decode cX3_build 104 = .ok (.aload_n 0, 1) := by decide +kernel
theorem dX3_build_105 : decode cX3_build 105 = .ok (.getfield 9, 3) := by decide +kernel
theorem dX3_build_108 : decode cX3_build 108 = .ok (.getfield 40, 3) := by decide +kernel
theorem dX3_build_111 : decode cX3_build 111 = .ok (.imul, 1) := by decide +kernel
theorem dX3_build_112 : decode cX3_build 112 = .ok (.istore_n 3, 1) := by decide +kernel
theorem dX3_build_113 : decode cX3_build 113 = .ok (.iconst 0, 1) := by decide +kernel
theorem dX3_build_114 : decode cX3_build 114 = .ok (.istore 4, 2) := by decide +kernel
theorem dX3_build_116 : decode cX3_build 116 = .ok (.iload 4, 2) := by decide +kernel
theorem dX3_build_118 : decode cX3_build 118 = .ok (.aload_n 0, 1) := by decide +kernel
theorem dX3_build_119 : decode cX3_build 119 = .ok (.getfield 9, 3) := by decide +kernel
theorem dX3_build_122 : decode cX3_build 122 = .ok (.getfield 40, 3) := by decide +kernel
theorem dX3_build_125 : decode cX3_build 125 = .ok (.if_icmp .ge 37, 3) := by decide +kernel
theorem dX3_build_128 : decode cX3_build 128 = .ok (.aload_n 0, 1) := by decide +kernel
theorem dX3_build_129 : decode cX3_build 129 = .ok (.getfield 23, 3) := by decide +kernel
theorem dX3_build_132 : decode cX3_build 132 = .ok (.iload_n 1, 1) := by decide +kernel
theorem dX3_build_133 : decode cX3_build 133 = .ok (.aload_n 0, 1) := by decide +kernel
theorem dX3_build_134 : decode cX3_build 134 = .ok (.getfield 9, 3) := by decide +kernel
theorem dX3_build_137 : decode cX3_build 137 = .ok (.getfield 40, 3) := by decide +kernel
theorem dX3_build_140 : decode cX3_build 140 = .ok (.imul, 1) := by decide +kernel
theorem dX3_build_141 : decode cX3_build 141 = .ok (.iload 4, 2) := by decide +kernel
theorem dX3_build_143 : decode cX3_build 143 = .ok (.iadd, 1) := by decide +kernel
theorem dX3_build_144 : decode cX3_build 144 = .ok (.aload_n 0, 1) := by decide +kernel
theorem dX3_build_145 : decode cX3_build 145 = .ok (.iload_n 2, 1) := by decide +kernel
theorem dX3_build_146 : decode cX3_build 146 = .ok (.iconst 1, 1) := by decide +kernel
theorem dX3_build_147 : decode cX3_build 147 = .ok (.iadd, 1) := by decide +kernel
theorem dX3_build_148 : decode cX3_build 148 = .ok (.iload_n 3, 1) := by decide +kernel
theorem dX3_build_149 : decode cX3_build 149 = .ok (.iload 4, 2) := by decide +kernel
theorem dX3_build_151 : decode cX3_build 151 = .ok (.iadd, 1) := by decide +kernel
theorem dX3_build_152 : decode cX3_build 152 = .ok (.invokevirtual 66, 3) := by decide +kernel
theorem dX3_build_155 : decode cX3_build 155 = .ok (.iastore, 1) := by decide +kernel
theorem dX3_build_156 : decode cX3_build 156 = .ok (.iinc 4 1, 3) := by decide +kernel
theorem dX3_build_159 : decode cX3_build 159 = .ok (.goto (-43), 3) := by decide +kernel
theorem dX3_build_162 : decode cX3_build 162 = .ok (.iinc 1 1, 3) := by decide +kernel
theorem dX3_build_165 : decode cX3_build 165 = .ok (.goto (-98), 3) := by decide +kernel
theorem dX3_build_168 : decode cX3_build 168 = .ok (.return_, 1) := by decide +kernel
theorem dX3_countBelow_0 : decode cX3_countBelow 0 = .ok (.lconst 0, 1) := by decide +kernel
theorem dX3_countBelow_1 : decode cX3_countBelow 1 = .ok (.lstore_n 2, 1) := by decide +kernel
theorem dX3_countBelow_2 : decode cX3_countBelow 2 = .ok (.iconst 0, 1) := by decide +kernel
theorem dX3_countBelow_3 : decode cX3_countBelow 3 = .ok (.istore 4, 2) := by decide +kernel
theorem dX3_countBelow_5 : decode cX3_countBelow 5 = .ok (.iload 4, 2) := by decide +kernel
theorem dX3_countBelow_7 : decode cX3_countBelow 7 = .ok (.iload_n 1, 1) := by decide +kernel
theorem dX3_countBelow_8 : decode cX3_countBelow 8 = .ok (.if_icmp .ge 29, 3) := by decide +kernel
theorem dX3_countBelow_11 : decode cX3_countBelow 11 = .ok (.iload 4, 2) := by decide +kernel
theorem dX3_countBelow_13 : decode cX3_countBelow 13 = .ok (.aload_n 0, 1) := by decide +kernel
theorem dX3_countBelow_14 : decode cX3_countBelow 14 = .ok (.getfield 33, 3) := by decide +kernel
theorem dX3_countBelow_17 : decode cX3_countBelow 17 = .ok (.arraylength, 1) := by decide +kernel
theorem dX3_countBelow_18 : decode cX3_countBelow 18 = .ok (.if_icmp .ge 19, 3) := by decide +kernel
theorem dX3_countBelow_21 : decode cX3_countBelow 21 = .ok (.lload_n 2, 1) := by decide +kernel
theorem dX3_countBelow_22 : decode cX3_countBelow 22 = .ok (.aload_n 0, 1) := by decide +kernel
theorem dX3_countBelow_23 : decode cX3_countBelow 23 = .ok (.getfield 33, 3) := by decide +kernel
theorem dX3_countBelow_26 : decode cX3_countBelow 26 = .ok (.iload 4, 2) := by decide +kernel
theorem dX3_countBelow_28 : decode cX3_countBelow 28 = .ok (.laload, 1) := by decide +kernel
theorem dX3_countBelow_29 : decode cX3_countBelow 29 = .ok (.ladd, 1) := by decide +kernel
theorem dX3_countBelow_30 : decode cX3_countBelow 30 = .ok (.lstore_n 2, 1) := by decide +kernel
theorem dX3_countBelow_31 : decode cX3_countBelow 31 = .ok (.iinc 4 1, 3) := by decide +kernel
theorem dX3_countBelow_34 : decode cX3_countBelow 34 = .ok (.goto (-29), 3) := by decide +kernel
theorem dX3_countBelow_37 : decode cX3_countBelow 37 = .ok (.lload_n 2, 1) := by decide +kernel
theorem dX3_countBelow_38 : decode cX3_countBelow 38 = .ok (.lreturn, 1) := by decide +kernel
set_option maxRecDepth 20000 in
theorem ggX3_countWays_X3_lengthen : GoodIn wsX3_countWays wsX3_lengthen := goodIn_r _ [7, 1, 8, 9, 2, 10, 11, 12, 13, 6, 14, 15, 16, 17, 18, 19, 20, 21, 22, 23, 24, 25, 26, 27, 28, 29] (by decide +kernel) (by decide +kernel)
set_option maxRecDepth 20000 in
theorem gX3_countWays_X3_lengthen : GoodIn wsX3_countWays (wsV RX3 98 RX3 yX3_lengthen wsX3_lengthen) := goodIn_app (goodIn_of _ (by decide +kernel)) ggX3_countWays_X3_lengthen
theorem dX3_countWays_0 : decode cX3_countWays 0 = .ok (.iconst 0, 1) := by decide +kernel
theorem dX3_countWays_1 : decode cX3_countWays 1 = .ok (.istore_n 2, 1) := by decide +kernel
theorem dX3_countWays_2 : decode cX3_countWays 2 = .ok (.iload_n 2, 1) := by decide +kernel
theorem dX3_countWays_3 : decode cX3_countWays 3 = .ok (.aload_n 0, 1) := by decide +kernel
theorem dX3_countWays_4 : decode cX3_countWays 4 = .ok (.getfield 36, 3) := by decide +kernel
theorem dX3_countWays_7 : decode cX3_countWays 7 = .ok (.if_icmp .ge 16, 3) := by decide +kernel
theorem dX3_countWays_10 : decode cX3_countWays 10 = .ok (.aload_n 0, 1) := by decide +kernel
theorem dX3_countWays_11 : decode cX3_countWays 11 = .ok (.getfield 26, 3) := by decide +kernel
theorem dX3_countWays_14 : decode cX3_countWays 14 = .ok (.iload_n 2, 1) := by decide +kernel
theorem dX3_countWays_15 : decode cX3_countWays 15 = .ok (.lconst 1, 1) := by decide +kernel
theorem dX3_countWays_16 : decode cX3_countWays 16 = .ok (.lastore, 1) := by decide +kernel
theorem dX3_countWays_17 : decode cX3_countWays 17 = .ok (.iinc 2 1, 3) := by decide +kernel
theorem dX3_countWays_20 : decode cX3_countWays 20 = .ok (.goto (-18), 3) := by decide +kernel
theorem dX3_countWays_23 : decode cX3_countWays 23 = .ok (.iconst 0, 1) := by decide +kernel
theorem dX3_countWays_24 : decode cX3_countWays 24 = .ok (.istore_n 2, 1) := by decide +kernel
theorem dX3_countWays_25 : decode cX3_countWays 25 = .ok (.iload_n 2, 1) := by decide +kernel
theorem dX3_countWays_26 : decode cX3_countWays 26 = .ok (.iload_n 1, 1) := by decide +kernel
theorem dX3_countWays_27 : decode cX3_countWays 27 = .ok (.if_icmp .ge 13, 3) := by decide +kernel
theorem dX3_countWays_30 : decode cX3_countWays 30 = .ok (.aload_n 0, 1) := by decide +kernel
theorem dX3_countWays_31 : decode cX3_countWays 31 = .ok (.invokevirtual 98, 3) := by decide +kernel
theorem dX3_countWays_34 : decode cX3_countWays 34 = .ok (.iinc 2 1, 3) := by decide +kernel
theorem dX3_countWays_37 : decode cX3_countWays 37 = .ok (.goto (-12), 3) := by decide +kernel
theorem dX3_countWays_40 : decode cX3_countWays 40 = .ok (.return_, 1) := by decide +kernel
set_option maxRecDepth 20000 in
theorem ggX3_endOf_X8_firstOf : GoodIn wsX3_endOf wsX8_firstOf := goodIn_r _ [9, 10, 11, 41, 42, 43, 44] (by decide +kernel) (by decide +kernel)
set_option maxRecDepth 20000 in
theorem gX3_endOf_X8_firstOf : GoodIn wsX3_endOf (wsV RX3 63 RX8 yX8_firstOf wsX8_firstOf) := goodIn_app (goodIn_of _ (by decide +kernel)) ggX3_endOf_X8_firstOf
set_option maxRecDepth 20000 in
theorem ggX3_endOf_X8_powerOf : GoodIn wsX3_endOf wsX8_powerOf := goodIn_r _ [15, 10, 16, 41, 42, 43, 44] (by decide +kernel) (by decide +kernel)
set_option maxRecDepth 20000 in
theorem gX3_endOf_X8_powerOf : GoodIn wsX3_endOf (wsV RX3 73 RX8 yX8_powerOf wsX8_powerOf) := goodIn_app (goodIn_of _ (by decide +kernel)) ggX3_endOf_X8_powerOf
set_option maxRecDepth 20000 in
theorem ggX3_endOf_X7_withLeft : GoodIn wsX3_endOf wsX7_withLeft := goodIn_r _ [21, 22, 23, 24, 25, 26, 27, 28, 29, 30, 45, 46, 47, 48, 49, 50, 51] (by decide +kernel) (by decide +kernel)
set_option maxRecDepth 20000 in
theorem gX3_endOf_X7_withLeft : GoodIn wsX3_endOf (wsV RX3 76 RX7 yX7_withLeft wsX7_withLeft) := goodIn_app (goodIn_of _ (by decide +kernel)) ggX3_endOf_X7_withLeft
set_option maxRecDepth 20000 in
theorem ggX3_endOf_X11_placeOf : GoodIn wsX3_endOf wsX11_placeOf := goodIn_r _ [26, 27, 28, 29, 30] (by decide +kernel) (by decide +kernel)
set_option maxRecDepth 20000 in
theorem gX3_endOf_X11_placeOf_n69 : GoodIn wsX3_endOf (wsX11_placeOf) := ggX3_endOf_X11_placeOf
theorem dX3_endOf_0 : decode cX3_endOf 0 = .ok (.iload_n 1, 1) := by decide +kernel
theorem dX3_endOf_1 : decode cX3_endOf 1 = .ok (.istore_n 3, 1) := by decide +kernel
theorem dX3_endOf_2 : decode cX3_endOf 2 = .ok (.iload_n 3, 1) := by decide +kernel
theorem dX3_endOf_3 : decode cX3_endOf 3 = .ok (.ifCond .le 47, 3) := by decide +kernel
theorem dX3_endOf_6 : decode cX3_endOf 6 = .ok (.aload_n 0, 1) := by decide +kernel
theorem dX3_endOf_7 : decode cX3_endOf 7 = .ok (.getfield 15, 3) := by decide +kernel
theorem dX3_endOf_10 : decode cX3_endOf 10 = .ok (.aload_n 0, 1) := by decide +kernel
theorem dX3_endOf_11 : decode cX3_endOf 11 = .ok (.getfield 9, 3) := by decide +kernel
theorem dX3_endOf_14 : decode cX3_endOf 14 = .ok (.iload_n 3, 1) := by decide +kernel
theorem dX3_endOf_15 : decode cX3_endOf 15 = .ok (.invokevirtual 63, 3) := by decide +kernel
theorem dX3_endOf_18 : decode cX3_endOf 18 = .ok (.iload_n 2, 1) := by decide +kernel
theorem dX3_endOf_19 : decode cX3_endOf 19 = .ok (.aload_n 0, 1) := by decide +kernel
theorem dX3_endOf_20 : decode cX3_endOf 20 = .ok (.getfield 9, 3) := by decide +kernel
theorem dX3_endOf_23 : decode cX3_endOf 23 = .ok (.iload_n 3, 1) := by decide +kernel
theorem dX3_endOf_24 : decode cX3_endOf 24 = .ok (.invokevirtual 73, 3) := by decide +kernel
theorem dX3_endOf_27 : decode cX3_endOf 27 = .ok (.irem, 1) := by decide +kernel
theorem dX3_endOf_28 : decode cX3_endOf 28 = .ok (.iadd, 1) := by decide +kernel
theorem dX3_endOf_29 : decode cX3_endOf 29 = .ok (.invokevirtual 76, 3) := by decide +kernel
theorem dX3_endOf_32 : decode cX3_endOf 32 = .ok (.istore 4, 2) := by decide +kernel
theorem dX3_endOf_34 : decode cX3_endOf 34 = .ok (.iload 4, 2) := by decide +kernel
theorem dX3_endOf_36 : decode cX3_endOf 36 = .ok (.ifCond .lt 8, 3) := by decide +kernel
theorem dX3_endOf_39 : decode cX3_endOf 39 = .ok (.iconst (-1), 1) := by decide +kernel
theorem dX3_endOf_40 : decode cX3_endOf 40 = .ok (.iload 4, 2) := by decide +kernel
theorem dX3_endOf_42 : decode cX3_endOf 42 = .ok (.isub, 1) := by decide +kernel
theorem dX3_endOf_43 : decode cX3_endOf 43 = .ok (.ireturn, 1) := by decide +kernel
theorem dX3_endOf_44 : decode cX3_endOf 44 = .ok (.iinc 3 (-1), 3) := by decide +kernel
theorem dX3_endOf_47 : decode cX3_endOf 47 = .ok (.goto (-45), 3) := by decide +kernel
theorem dX3_endOf_50 : decode cX3_endOf 50 = .ok (.iload_n 1, 1) := by decide +kernel
theorem dX3_endOf_51 : decode cX3_endOf 51 = .ok (.istore_n 3, 1) := by decide +kernel
theorem dX3_endOf_52 : decode cX3_endOf 52 = .ok (.iload_n 3, 1) := by decide +kernel
theorem dX3_endOf_53 : decode cX3_endOf 53 = .ok (.ifCond .le 49, 3) := by decide +kernel
theorem dX3_endOf_56 : decode cX3_endOf 56 = .ok (.aload_n 0, 1) := by decide +kernel
theorem dX3_endOf_57 : decode cX3_endOf 57 = .ok (.getfield 19, 3) := by decide +kernel
theorem dX3_endOf_60 : decode cX3_endOf 60 = .ok (.aload_n 0, 1) := by decide +kernel
theorem dX3_endOf_61 : decode cX3_endOf 61 = .ok (.getfield 36, 3) := by decide +kernel
theorem dX3_endOf_64 : decode cX3_endOf 64 = .ok (.aload_n 0, 1) := by decide +kernel
theorem dX3_endOf_65 : decode cX3_endOf 65 = .ok (.getfield 9, 3) := by decide +kernel
theorem dX3_endOf_68 : decode cX3_endOf 68 = .ok (.iload_n 3, 1) := by decide +kernel
theorem dX3_endOf_69 : decode cX3_endOf 69 = .ok (.invokevirtual 63, 3) := by decide +kernel
theorem dX3_endOf_72 : decode cX3_endOf 72 = .ok (.iload_n 2, 1) := by decide +kernel
theorem dX3_endOf_73 : decode cX3_endOf 73 = .ok (.aload_n 0, 1) := by decide +kernel
theorem dX3_endOf_74 : decode cX3_endOf 74 = .ok (.getfield 9, 3) := by decide +kernel
theorem dX3_endOf_77 : decode cX3_endOf 77 = .ok (.iload_n 3, 1) := by decide +kernel
theorem dX3_endOf_78 : decode cX3_endOf 78 = .ok (.invokevirtual 73, 3) := by decide +kernel
theorem dX3_endOf_81 : decode cX3_endOf 81 = .ok (.irem, 1) := by decide +kernel
theorem dX3_endOf_82 : decode cX3_endOf 82 = .ok (.iadd, 1) := by decide +kernel
theorem dX3_endOf_83 : decode cX3_endOf 83 = .ok (.invokestatic 69, 3) := by decide +kernel
theorem dX3_endOf_86 : decode cX3_endOf 86 = .ok (.istore 4, 2) := by decide +kernel
theorem dX3_endOf_88 : decode cX3_endOf 88 = .ok (.iload 4, 2) := by decide +kernel
theorem dX3_endOf_90 : decode cX3_endOf 90 = .ok (.ifCond .lt 6, 3) := by decide +kernel
theorem dX3_endOf_93 : decode cX3_endOf 93 = .ok (.iload 4, 2) := by decide +kernel
theorem dX3_endOf_95 : decode cX3_endOf 95 = .ok (.ireturn, 1) := by decide +kernel
theorem dX3_endOf_96 : decode cX3_endOf 96 = .ok (.iinc 3 (-1), 3) := by decide +kernel
theorem dX3_endOf_99 : decode cX3_endOf 99 = .ok (.goto (-47), 3) := by decide +kernel
theorem dX3_endOf_102 : decode cX3_endOf 102 = .ok (.iconst 0, 1) := by decide +kernel
theorem dX3_endOf_103 : decode cX3_endOf 103 = .ok (.ireturn, 1) := by decide +kernel
set_option maxRecDepth 20000 in
theorem ggX3_goesOn_X3_step : GoodIn wsX3_goesOn wsX3_step := goodIn_r _ [8, 1, 2, 9, 10, 11, 12, 13, 14, 15, 16, 17, 18, 19, 20, 21, 22, 23, 24] (by decide +kernel) (by decide +kernel)
set_option maxRecDepth 20000 in
theorem gX3_goesOn_X3_step : GoodIn wsX3_goesOn (wsV RX3 105 RX3 yX3_step wsX3_step) := goodIn_app (goodIn_of _ (by decide +kernel)) ggX3_goesOn_X3_step
theorem dX3_goesOn_0 : decode cX3_goesOn 0 = .ok (.iconst 0, 1) := by decide +kernel
theorem dX3_goesOn_1 : decode cX3_goesOn 1 = .ok (.istore_n 2, 1) := by decide +kernel
theorem dX3_goesOn_2 : decode cX3_goesOn 2 = .ok (.iload_n 2, 1) := by decide +kernel
theorem dX3_goesOn_3 : decode cX3_goesOn 3 = .ok (.aload_n 0, 1) := by decide +kernel
theorem dX3_goesOn_4 : decode cX3_goesOn 4 = .ok (.getfield 9, 3) := by decide +kernel
theorem dX3_goesOn_7 : decode cX3_goesOn 7 = .ok (.getfield 40, 3) := by decide +kernel
theorem dX3_goesOn_10 : decode cX3_goesOn 10 = .ok (.if_icmp .ge 33, 3) := by decide +kernel
theorem dX3_goesOn_13 : decode cX3_goesOn 13 = .ok (.aload_n 0, 1) := by decide +kernel
theorem dX3_goesOn_14 : decode cX3_goesOn 14 = .ok (.iload_n 1, 1) := by decide +kernel
theorem dX3_goesOn_15 : decode cX3_goesOn 15 = .ok (.iload_n 2, 1) := by decide +kernel
theorem dX3_goesOn_16 : decode cX3_goesOn 16 = .ok (.invokevirtual 105, 3) := by decide +kernel
theorem dX3_goesOn_19 : decode cX3_goesOn 19 = .ok (.istore_n 3, 1) := by decide +kernel
theorem dX3_goesOn_20 : decode cX3_goesOn 20 = .ok (.iload_n 3, 1) := by decide +kernel
theorem dX3_goesOn_21 : decode cX3_goesOn 21 = .ok (.ifCond .lt 16, 3) := by decide +kernel
theorem dX3_goesOn_24 : decode cX3_goesOn 24 = .ok (.aload_n 0, 1) := by decide +kernel
theorem dX3_goesOn_25 : decode cX3_goesOn 25 = .ok (.getfield 26, 3) := by decide +kernel
theorem dX3_goesOn_28 : decode cX3_goesOn 28 = .ok (.iload_n 3, 1) := by decide +kernel
theorem dX3_goesOn_29 : decode cX3_goesOn 29 = .ok (.laload, 1) := by decide +kernel
theorem dX3_goesOn_30 : decode cX3_goesOn 30 = .ok (.lconst 0, 1) := by decide +kernel
theorem dX3_goesOn_31 : decode cX3_goesOn 31 = .ok (.lcmp, 1) := by decide +kernel
theorem dX3_goesOn_32 : decode cX3_goesOn 32 = .ok (.ifCond .le 5, 3) := by decide +kernel
theorem dX3_goesOn_35 : decode cX3_goesOn 35 = .ok (.iconst 1, 1) := by decide +kernel
theorem dX3_goesOn_36 : decode cX3_goesOn 36 = .ok (.ireturn, 1) := by decide +kernel
theorem dX3_goesOn_37 : decode cX3_goesOn 37 = .ok (.iinc 2 1, 3) := by decide +kernel
theorem dX3_goesOn_40 : decode cX3_goesOn 40 = .ok (.goto (-38), 3) := by decide +kernel
theorem dX3_goesOn_43 : decode cX3_goesOn 43 = .ok (.iconst 0, 1) := by decide +kernel
theorem dX3_goesOn_44 : decode cX3_goesOn 44 = .ok (.ireturn, 1) := by decide +kernel
theorem dX3_has_0 : decode cX3_has 0 = .ok (.iload_n 1, 1) := by decide +kernel
theorem dX3_has_1 : decode cX3_has 1 = .ok (.ifCond .lt 15, 3) := by decide +kernel
theorem dX3_has_4 : decode cX3_has 4 = .ok (.iload_n 1, 1) := by decide +kernel
theorem dX3_has_5 : decode cX3_has 5 = .ok (.aload_n 0, 1) := by decide +kernel
theorem dX3_has_6 : decode cX3_has 6 = .ok (.getfield 36, 3) := by decide +kernel
theorem dX3_has_9 : decode cX3_has 9 = .ok (.if_icmp .ge 7, 3) := by decide +kernel
theorem dX3_has_12 : decode cX3_has 12 = .ok (.iconst 1, 1) := by decide +kernel
theorem dX3_has_13 : decode cX3_has 13 = .ok (.goto 4, 3) := by decide +kernel
theorem dX3_has_16 : decode cX3_has 16 = .ok (.iconst 0, 1) := by decide +kernel
theorem dX3_has_17 : decode cX3_has 17 = .ok (.ireturn, 1) := by decide +kernel
theorem dX3_init_0 : decode cX3_init 0 = .ok (.aload_n 0, 1) := by decide +kernel
theorem dX3_init_1 : decode cX3_init 1 = .ok (.invokespecial 3, 3) := by decide +kernel
theorem dX3_init_4 : decode cX3_init 4 = .ok (.aload_n 0, 1) := by decide +kernel
theorem dX3_init_5 : decode cX3_init 5 = .ok (.aload_n 1, 1) := by decide +kernel
theorem dX3_init_6 : decode cX3_init 6 = .ok (.putfield 9, 3) := by decide +kernel
theorem dX3_init_9 : decode cX3_init 9 = .ok (.aload_n 0, 1) := by decide +kernel
theorem dX3_init_10 : decode cX3_init 10 = .ok (.aload_n 2, 1) := by decide +kernel
theorem dX3_init_11 : decode cX3_init 11 = .ok (.putfield 15, 3) := by decide +kernel
theorem dX3_init_14 : decode cX3_init 14 = .ok (.aload_n 0, 1) := by decide +kernel
theorem dX3_init_15 : decode cX3_init 15 = .ok (.sipush 320, 3) := by decide +kernel
theorem dX3_init_18 : decode cX3_init 18 = .ok (.newarray .int, 2) := by decide +kernel
theorem dX3_init_20 : decode cX3_init 20 = .ok (.putfield 19, 3) := by decide +kernel
theorem dX3_init_23 : decode cX3_init 23 = .ok (.aload_n 0, 1) := by decide +kernel
theorem dX3_init_24 : decode cX3_init 24 = .ok (.sipush 640, 3) := by decide +kernel
theorem dX3_init_27 : decode cX3_init 27 = .ok (.newarray .int, 2) := by decide +kernel
theorem dX3_init_29 : decode cX3_init 29 = .ok (.putfield 23, 3) := by decide +kernel
theorem dX3_init_32 : decode cX3_init 32 = .ok (.aload_n 0, 1) := by decide +kernel
theorem dX3_init_33 : decode cX3_init 33 = .ok (.sipush 320, 3) := by decide +kernel
theorem dX3_init_36 : decode cX3_init 36 = .ok (.newarray .long, 2) := by decide +kernel
theorem dX3_init_38 : decode cX3_init 38 = .ok (.putfield 26, 3) := by decide +kernel
theorem dX3_init_41 : decode cX3_init 41 = .ok (.aload_n 0, 1) := by decide +kernel
theorem dX3_init_42 : decode cX3_init 42 = .ok (.sipush 320, 3) := by decide +kernel
theorem dX3_init_45 : decode cX3_init 45 = .ok (.newarray .long, 2) := by decide +kernel
theorem dX3_init_47 : decode cX3_init 47 = .ok (.putfield 30, 3) := by decide +kernel
theorem dX3_init_50 : decode cX3_init 50 = .ok (.aload_n 0, 1) := by decide +kernel
theorem dX3_init_51 : decode cX3_init 51 = .ok (.bipush 32, 2) := by decide +kernel
theorem dX3_init_53 : decode cX3_init 53 = .ok (.newarray .long, 2) := by decide +kernel
theorem dX3_init_55 : decode cX3_init 55 = .ok (.putfield 33, 3) := by decide +kernel
theorem dX3_init_58 : decode cX3_init 58 = .ok (.return_, 1) := by decide +kernel
set_option maxRecDepth 20000 in
theorem ggX3_isEndless_X3_goesOn : GoodIn wsX3_isEndless wsX3_goesOn := goodIn_r _ [7, 8, 9, 2, 10, 11, 12, 6, 13, 1, 14, 15, 16, 17, 18, 19, 20, 21, 22, 23, 24, 25, 26, 27, 28] (by decide +kernel) (by decide +kernel)
set_option maxRecDepth 20000 in
theorem gX3_isEndless_X3_goesOn : GoodIn wsX3_isEndless (wsV RX3 101 RX3 yX3_goesOn wsX3_goesOn) := goodIn_app (goodIn_of _ (by decide +kernel)) ggX3_isEndless_X3_goesOn
theorem dX3_isEndless_0 : decode cX3_isEndless 0 = .ok (.iconst 0, 1) := by decide +kernel
theorem dX3_isEndless_1 : decode cX3_isEndless 1 = .ok (.istore_n 1, 1) := by decide +kernel
theorem dX3_isEndless_2 : decode cX3_isEndless 2 = .ok (.iload_n 1, 1) := by decide +kernel
theorem dX3_isEndless_3 : decode cX3_isEndless 3 = .ok (.aload_n 0, 1) := by decide +kernel
theorem dX3_isEndless_4 : decode cX3_isEndless 4 = .ok (.getfield 36, 3) := by decide +kernel
theorem dX3_isEndless_7 : decode cX3_isEndless 7 = .ok (.if_icmp .ge 16, 3) := by decide +kernel
theorem dX3_isEndless_10 : decode cX3_isEndless 10 = .ok (.aload_n 0, 1) := by decide +kernel
theorem dX3_isEndless_11 : decode cX3_isEndless 11 = .ok (.getfield 26, 3) := by decide +kernel
theorem dX3_isEndless_14 : decode cX3_isEndless 14 = .ok (.iload_n 1, 1) := by decide +kernel
theorem dX3_isEndless_15 : decode cX3_isEndless 15 = .ok (.lconst 1, 1) := by decide +kernel
theorem dX3_isEndless_16 : decode cX3_isEndless 16 = .ok (.lastore, 1) := by decide +kernel
theorem dX3_isEndless_17 : decode cX3_isEndless 17 = .ok (.iinc 1 1, 3) := by decide +kernel
theorem dX3_isEndless_20 : decode cX3_isEndless 20 = .ok (.goto (-18), 3) := by decide +kernel
theorem dX3_isEndless_23 : decode cX3_isEndless 23 = .ok (.iconst 1, 1) := by decide +kernel
theorem dX3_isEndless_24 : decode cX3_isEndless 24 = .ok (.istore_n 1, 1) := by decide +kernel
theorem dX3_isEndless_25 : decode cX3_isEndless 25 = .ok (.iconst 0, 1) := by decide +kernel
theorem dX3_isEndless_26 : decode cX3_isEndless 26 = .ok (.istore_n 2, 1) := by decide +kernel
theorem dX3_isEndless_27 : decode cX3_isEndless 27 = .ok (.iload_n 2, 1) := by decide +kernel
theorem dX3_isEndless_28 : decode cX3_isEndless 28 = .ok (.aload_n 0, 1) := by decide +kernel
theorem dX3_isEndless_29 : decode cX3_isEndless 29 = .ok (.getfield 36, 3) := by decide +kernel
theorem dX3_isEndless_32 : decode cX3_isEndless 32 = .ok (.if_icmp .gt 59, 3) := by decide +kernel
theorem dX3_isEndless_35 : decode cX3_isEndless 35 = .ok (.iload_n 1, 1) := by decide +kernel
theorem dX3_isEndless_36 : decode cX3_isEndless 36 = .ok (.ifCond .eq 55, 3) := by decide +kernel
theorem dX3_isEndless_39 : decode cX3_isEndless 39 = .ok (.iconst 0, 1) := by decide +kernel
theorem dX3_isEndless_40 : decode cX3_isEndless 40 = .ok (.istore_n 1, 1) := by decide +kernel
theorem dX3_isEndless_41 : decode cX3_isEndless 41 = .ok (.iconst 0, 1) := by decide +kernel
theorem dX3_isEndless_42 : decode cX3_isEndless 42 = .ok (.istore_n 3, 1) := by decide +kernel
theorem dX3_isEndless_43 : decode cX3_isEndless 43 = .ok (.iload_n 3, 1) := by decide +kernel
theorem dX3_isEndless_44 : decode cX3_isEndless 44 = .ok (.aload_n 0, 1) := by decide +kernel
theorem dX3_isEndless_45 : decode cX3_isEndless 45 = .ok (.getfield 36, 3) := by decide +kernel
theorem dX3_isEndless_48 : decode cX3_isEndless 48 = .ok (.if_icmp .ge 37, 3) := by decide +kernel
theorem dX3_isEndless_51 : decode cX3_isEndless 51 = .ok (.aload_n 0, 1) := by decide +kernel
theorem dX3_isEndless_52 : decode cX3_isEndless 52 = .ok (.getfield 26, 3) := by decide +kernel
theorem dX3_isEndless_55 : decode cX3_isEndless 55 = .ok (.iload_n 3, 1) := by decide +kernel
theorem dX3_isEndless_56 : decode cX3_isEndless 56 = .ok (.laload, 1) := by decide +kernel
theorem dX3_isEndless_57 : decode cX3_isEndless 57 = .ok (.lconst 0, 1) := by decide +kernel
theorem dX3_isEndless_58 : decode cX3_isEndless 58 = .ok (.lcmp, 1) := by decide +kernel
theorem dX3_isEndless_59 : decode cX3_isEndless 59 = .ok (.ifCond .le 20, 3) := by decide +kernel
theorem dX3_isEndless_62 : decode cX3_isEndless 62 = .ok (.aload_n 0, 1) := by decide +kernel
theorem dX3_isEndless_63 : decode cX3_isEndless 63 = .ok (.iload_n 3, 1) := by decide +kernel
theorem dX3_isEndless_64 : decode cX3_isEndless 64 = .ok (.invokevirtual 101, 3) := by decide +kernel
theorem dX3_isEndless_67 : decode cX3_isEndless 67 = .ok (.ifCond .ne 12, 3) := by decide +kernel
theorem dX3_isEndless_70 : decode cX3_isEndless 70 = .ok (.aload_n 0, 1) := by decide +kernel
theorem dX3_isEndless_71 : decode cX3_isEndless 71 = .ok (.getfield 26, 3) := by decide +kernel
theorem dX3_isEndless_74 : decode cX3_isEndless 74 = .ok (.iload_n 3, 1) := by decide +kernel
theorem dX3_isEndless_75 : decode cX3_isEndless 75 = .ok (.lconst 0, 1) := by decide +kernel
theorem dX3_isEndless_76 : decode cX3_isEndless 76 = .ok (.lastore, 1) := by decide +kernel
theorem dX3_isEndless_77 : decode cX3_isEndless 77 = .ok (.iconst 1, 1) := by decide +kernel
theorem dX3_isEndless_78 : decode cX3_isEndless 78 = .ok (.istore_n 1, 1) := by decide +kernel
theorem dX3_isEndless_79 : decode cX3_isEndless 79 = .ok (.iinc 3 1, 3) := by decide +kernel
theorem dX3_isEndless_82 : decode cX3_isEndless 82 = .ok (.goto (-39), 3) := by decide +kernel
theorem dX3_isEndless_85 : decode cX3_isEndless 85 = .ok (.iinc 2 1, 3) := by decide +kernel
theorem dX3_isEndless_88 : decode cX3_isEndless 88 = .ok (.goto (-61), 3) := by decide +kernel
theorem dX3_isEndless_91 : decode cX3_isEndless 91 = .ok (.aload_n 0, 1) := by decide +kernel
theorem dX3_isEndless_92 : decode cX3_isEndless 92 = .ok (.getfield 26, 3) := by decide +kernel
theorem dX3_isEndless_95 : decode cX3_isEndless 95 = .ok (.iconst 0, 1) := by decide +kernel
theorem dX3_isEndless_96 : decode cX3_isEndless 96 = .ok (.laload, 1) := by decide +kernel
theorem dX3_isEndless_97 : decode cX3_isEndless 97 = .ok (.lconst 0, 1) := by decide +kernel
theorem dX3_isEndless_98 : decode cX3_isEndless 98 = .ok (.lcmp, 1) := by decide +kernel
theorem dX3_isEndless_99 : decode cX3_isEndless 99 = .ok (.ifCond .le 7, 3) := by decide +kernel
theorem dX3_isEndless_102 : decode cX3_isEndless 102 = .ok (.iconst 1, 1) := by decide +kernel
theorem dX3_isEndless_103 : decode cX3_isEndless 103 = .ok (.goto 4, 3) := by decide +kernel
theorem dX3_isEndless_106 : decode cX3_isEndless 106 = .ok (.iconst 0, 1) := by decide +kernel
theorem dX3_isEndless_107 : decode cX3_isEndless 107 = .ok (.ireturn, 1) := by decide +kernel
set_option maxRecDepth 20000 in
theorem ggX3_keep_X11_placeOf : GoodIn wsX3_keep wsX11_placeOf := goodIn_r _ [7, 8, 9, 10, 11] (by decide +kernel) (by decide +kernel)
set_option maxRecDepth 20000 in
theorem gX3_keep_X11_placeOf_n69 : GoodIn wsX3_keep (wsX11_placeOf) := ggX3_keep_X11_placeOf
theorem dX3_keep_0 : decode cX3_keep 0 = .ok (.iconst (-1), 1) := by decide +kernel
theorem dX3_keep_1 : decode cX3_keep 1 = .ok (.aload_n 0, 1) := by decide +kernel
theorem dX3_keep_2 : decode cX3_keep 2 = .ok (.getfield 19, 3) := by decide +kernel
theorem dX3_keep_5 : decode cX3_keep 5 = .ok (.aload_n 0, 1) := by decide +kernel
theorem dX3_keep_6 : decode cX3_keep 6 = .ok (.getfield 36, 3) := by decide +kernel
theorem dX3_keep_9 : decode cX3_keep 9 = .ok (.iload_n 1, 1) := by decide +kernel
theorem dX3_keep_10 : decode cX3_keep 10 = .ok (.invokestatic 69, 3) := by decide +kernel
theorem dX3_keep_13 : decode cX3_keep 13 = .ok (.isub, 1) := by decide +kernel
theorem dX3_keep_14 : decode cX3_keep 14 = .ok (.istore_n 2, 1) := by decide +kernel
theorem dX3_keep_15 : decode cX3_keep 15 = .ok (.aload_n 0, 1) := by decide +kernel
theorem dX3_keep_16 : decode cX3_keep 16 = .ok (.getfield 36, 3) := by decide +kernel
theorem dX3_keep_19 : decode cX3_keep 19 = .ok (.sipush 320, 3) := by decide +kernel
theorem dX3_keep_22 : decode cX3_keep 22 = .ok (.if_icmp .ge 27, 3) := by decide +kernel
theorem dX3_keep_25 : decode cX3_keep 25 = .ok (.aload_n 0, 1) := by decide +kernel
theorem dX3_keep_26 : decode cX3_keep 26 = .ok (.getfield 36, 3) := by decide +kernel
theorem dX3_keep_29 : decode cX3_keep 29 = .ok (.iconst 1, 1) := by decide +kernel
theorem dX3_keep_30 : decode cX3_keep 30 = .ok (.iadd, 1) := by decide +kernel
theorem dX3_keep_31 : decode cX3_keep 31 = .ok (.aload_n 0, 1) := by decide +kernel
theorem dX3_keep_32 : decode cX3_keep 32 = .ok (.getfield 9, 3) := by decide +kernel
theorem dX3_keep_35 : decode cX3_keep 35 = .ok (.getfield 40, 3) := by decide +kernel
theorem dX3_keep_38 : decode cX3_keep 38 = .ok (.imul, 1) := by decide +kernel
theorem dX3_keep_39 : decode cX3_keep 39 = .ok (.sipush 640, 3) := by decide +kernel
theorem dX3_keep_42 : decode cX3_keep 42 = .ok (.if_icmp .gt 7, 3) := by decide +kernel
theorem dX3_keep_45 : decode cX3_keep 45 = .ok (.iconst 1, 1) := by decide +kernel
theorem dX3_keep_46 : decode cX3_keep 46 = .ok (.goto 4, 3) := by decide +kernel
theorem dX3_keep_49 : decode cX3_keep 49 = .ok (.iconst 0, 1) := by decide +kernel
theorem dX3_keep_50 : decode cX3_keep 50 = .ok (.istore_n 3, 1) := by decide +kernel
theorem dX3_keep_51 : decode cX3_keep 51 = .ok (.iload_n 2, 1) := by decide +kernel
theorem dX3_keep_52 : decode cX3_keep 52 = .ok (.ifCond .lt 7, 3) := by decide +kernel
theorem dX3_keep_55 : decode cX3_keep 55 = .ok (.iload_n 3, 1) := by decide +kernel
theorem dX3_keep_56 : decode cX3_keep 56 = .ok (.ifCond .ne 4, 3) := by decide +kernel
theorem dX3_keep_59 : decode cX3_keep 59 = .ok (.return_, 1) := by decide +kernel
theorem dX3_keep_60 : decode cX3_keep 60 = .ok (.aload_n 0, 1) := by decide +kernel
theorem dX3_keep_61 : decode cX3_keep 61 = .ok (.getfield 36, 3) := by decide +kernel
theorem dX3_keep_64 : decode cX3_keep 64 = .ok (.istore 4, 2) := by decide +kernel
theorem dX3_keep_66 : decode cX3_keep 66 = .ok (.iload 4, 2) := by decide +kernel
theorem dX3_keep_68 : decode cX3_keep 68 = .ok (.iload_n 2, 1) := by decide +kernel
theorem dX3_keep_69 : decode cX3_keep 69 = .ok (.if_icmp .le 25, 3) := by decide +kernel
theorem dX3_keep_72 : decode cX3_keep 72 = .ok (.aload_n 0, 1) := by decide +kernel
theorem dX3_keep_73 : decode cX3_keep 73 = .ok (.getfield 19, 3) := by decide +kernel
theorem dX3_keep_76 : decode cX3_keep 76 = .ok (.iload 4, 2) := by decide +kernel
theorem dX3_keep_78 : decode cX3_keep 78 = .ok (.aload_n 0, 1) := by decide +kernel
theorem dX3_keep_79 : decode cX3_keep 79 = .ok (.getfield 19, 3) := by decide +kernel
theorem dX3_keep_82 : decode cX3_keep 82 = .ok (.iload 4, 2) := by decide +kernel
theorem dX3_keep_84 : decode cX3_keep 84 = .ok (.iconst 1, 1) := by decide +kernel
theorem dX3_keep_85 : decode cX3_keep 85 = .ok (.isub, 1) := by decide +kernel
theorem dX3_keep_86 : decode cX3_keep 86 = .ok (.iaload, 1) := by decide +kernel
theorem dX3_keep_87 : decode cX3_keep 87 = .ok (.iastore, 1) := by decide +kernel
theorem dX3_keep_88 : decode cX3_keep 88 = .ok (.iinc 4 (-1), 3) := by decide +kernel
theorem dX3_keep_91 : decode cX3_keep 91 = .ok (.goto (-25), 3) := by decide +kernel
theorem dX3_keep_94 : decode cX3_keep 94 = .ok (.aload_n 0, 1) := by decide +kernel
theorem dX3_keep_95 : decode cX3_keep 95 = .ok (.getfield 19, 3) := by decide +kernel
theorem dX3_keep_98 : decode cX3_keep 98 = .ok (.iload_n 2, 1) := by decide +kernel
theorem dX3_keep_99 : decode cX3_keep 99 = .ok (.iload_n 1, 1) := by decide +kernel
theorem dX3_keep_100 : decode cX3_keep 100 = .ok (.iastore, 1) := by decide +kernel
theorem dX3_keep_101 : decode cX3_keep 101 = .ok (.aload_n 0, 1) := by decide +kernel
theorem dX3_keep_102 : decode cX3_keep 102 = .ok (.dup, 1) := by decide +kernel
theorem dX3_keep_103 : decode cX3_keep 103 = .ok (.getfield 36, 3) := by decide +kernel
theorem dX3_keep_106 : decode cX3_keep 106 = .ok (.iconst 1, 1) := by decide +kernel
theorem dX3_keep_107 : decode cX3_keep 107 = .ok (.iadd, 1) := by decide +kernel
theorem dX3_keep_108 : decode cX3_keep 108 = .ok (.putfield 36, 3) := by decide +kernel
theorem dX3_keep_111 : decode cX3_keep 111 = .ok (.return_, 1) := by decide +kernel
set_option maxRecDepth 20000 in
theorem ggX3_lengthen_X3_step : GoodIn wsX3_lengthen wsX3_step := goodIn_r _ [10, 2, 3, 1, 11, 12, 13, 14, 15, 16, 17, 18, 19, 20, 21, 22, 23, 24, 25] (by decide +kernel) (by decide +kernel)
set_option maxRecDepth 20000 in
theorem gX3_lengthen_X3_step : GoodIn wsX3_lengthen (wsV RX3 105 RX3 yX3_step wsX3_step) := goodIn_app (goodIn_of _ (by decide +kernel)) ggX3_lengthen_X3_step
theorem dX3_lengthen_0 : decode cX3_lengthen 0 = .ok (.iconst 0, 1) := by decide +kernel
theorem dX3_lengthen_1 : decode cX3_lengthen 1 = .ok (.istore_n 1, 1) := by decide +kernel
theorem dX3_lengthen_2 : decode cX3_lengthen 2 = .ok (.iload_n 1, 1) := by decide +kernel
theorem dX3_lengthen_3 : decode cX3_lengthen 3 = .ok (.aload_n 0, 1) := by decide +kernel
theorem dX3_lengthen_4 : decode cX3_lengthen 4 = .ok (.getfield 36, 3) := by decide +kernel
theorem dX3_lengthen_7 : decode cX3_lengthen 7 = .ok (.if_icmp .ge 63, 3) := by decide +kernel
theorem dX3_lengthen_10 : decode cX3_lengthen 10 = .ok (.lconst 0, 1) := by decide +kernel
theorem dX3_lengthen_11 : decode cX3_lengthen 11 = .ok (.lstore_n 2, 1) := by decide +kernel
theorem dX3_lengthen_12 : decode cX3_lengthen 12 = .ok (.iconst 0, 1) := by decide +kernel
theorem dX3_lengthen_13 : decode cX3_lengthen 13 = .ok (.istore 4, 2) := by decide +kernel
theorem dX3_lengthen_15 : decode cX3_lengthen 15 = .ok (.iload 4, 2) := by decide +kernel
theorem dX3_lengthen_17 : decode cX3_lengthen 17 = .ok (.aload_n 0, 1) := by decide +kernel
theorem dX3_lengthen_18 : decode cX3_lengthen 18 = .ok (.getfield 9, 3) := by decide +kernel
theorem dX3_lengthen_21 : decode cX3_lengthen 21 = .ok (.getfield 40, 3) := by decide +kernel
theorem dX3_lengthen_24 : decode cX3_lengthen 24 = .ok (.if_icmp .ge 33, 3) := by decide +kernel
theorem dX3_lengthen_27 : decode cX3_lengthen 27 = .ok (.aload_n 0, 1) := by decide +kernel
theorem dX3_lengthen_28 : decode cX3_lengthen 28 = .ok (.iload_n 1, 1) := by decide +kernel
theorem dX3_lengthen_29 : decode cX3_lengthen 29 = .ok (.iload 4, 2) := by decide +kernel
theorem dX3_lengthen_31 : decode cX3_lengthen 31 = .ok (.invokevirtual 105, 3) := by decide +kernel
theorem dX3_lengthen_34 : decode cX3_lengthen 34 = .ok (.istore 5, 2) := by decide +kernel
theorem dX3_lengthen_36 : decode cX3_lengthen 36 = .ok (.iload 5, 2) := by decide +kernel
theorem dX3_lengthen_38 : decode cX3_lengthen 38 = .ok (.ifCond .lt 13, 3) := by decide +kernel
theorem dX3_lengthen_41 : decode cX3_lengthen 41 = .ok (.lload_n 2, 1) := by decide +kernel
theorem dX3_lengthen_42 : decode cX3_lengthen 42 = .ok (.aload_n 0, 1) := by decide +kernel
theorem dX3_lengthen_43 : decode cX3_lengthen 43 = .ok (.getfield 26, 3) := by decide +kernel
theorem dX3_lengthen_46 : decode cX3_lengthen 46 = .ok (.iload 5, 2) := by decide +kernel
theorem dX3_lengthen_48 : decode cX3_lengthen 48 = .ok (.laload, 1) := by decide +kernel
theorem dX3_lengthen_49 : decode cX3_lengthen 49 = .ok (.ladd, 1) := by decide +kernel
theorem dX3_lengthen_50 : decode cX3_lengthen 50 = .ok (.lstore_n 2, 1) := by decide +kernel
theorem dX3_lengthen_51 : decode cX3_lengthen 51 = .ok (.iinc 4 1, 3) := by decide +kernel
theorem dX3_lengthen_54 : decode cX3_lengthen 54 = .ok (.goto (-39), 3) := by decide +kernel
theorem dX3_lengthen_57 : decode cX3_lengthen 57 = .ok (.aload_n 0, 1) := by decide +kernel
theorem dX3_lengthen_58 : decode cX3_lengthen 58 = .ok (.getfield 30, 3) := by decide +kernel
theorem dX3_lengthen_61 : decode cX3_lengthen 61 = .ok (.iload_n 1, 1) := by decide +kernel
theorem dX3_lengthen_62 : decode cX3_lengthen 62 = .ok (.lload_n 2, 1) := by decide +kernel
theorem dX3_lengthen_63 : decode cX3_lengthen 63 = .ok (.lastore, 1) := by decide +kernel
theorem dX3_lengthen_64 : decode cX3_lengthen 64 = .ok (.iinc 1 1, 3) := by decide +kernel
theorem dX3_lengthen_67 : decode cX3_lengthen 67 = .ok (.goto (-65), 3) := by decide +kernel
theorem dX3_lengthen_70 : decode cX3_lengthen 70 = .ok (.aload_n 0, 1) := by decide +kernel
theorem dX3_lengthen_71 : decode cX3_lengthen 71 = .ok (.getfield 26, 3) := by decide +kernel
theorem dX3_lengthen_74 : decode cX3_lengthen 74 = .ok (.astore_n 1, 1) := by decide +kernel
theorem dX3_lengthen_75 : decode cX3_lengthen 75 = .ok (.aload_n 0, 1) := by decide +kernel
theorem dX3_lengthen_76 : decode cX3_lengthen 76 = .ok (.aload_n 0, 1) := by decide +kernel
theorem dX3_lengthen_77 : decode cX3_lengthen 77 = .ok (.getfield 30, 3) := by decide +kernel
theorem dX3_lengthen_80 : decode cX3_lengthen 80 = .ok (.putfield 26, 3) := by decide +kernel
theorem dX3_lengthen_83 : decode cX3_lengthen 83 = .ok (.aload_n 0, 1) := by decide +kernel
theorem dX3_lengthen_84 : decode cX3_lengthen 84 = .ok (.aload_n 1, 1) := by decide +kernel
theorem dX3_lengthen_85 : decode cX3_lengthen 85 = .ok (.putfield 30, 3) := by decide +kernel
theorem dX3_lengthen_88 : decode cX3_lengthen 88 = .ok (.return_, 1) := by decide +kernel
theorem dX3_letterCount_0 : decode cX3_letterCount 0 = .ok (.aload_n 0, 1) := by decide +kernel
theorem dX3_letterCount_1 : decode cX3_letterCount 1 = .ok (.getfield 9, 3) := by decide +kernel
theorem dX3_letterCount_4 : decode cX3_letterCount 4 = .ok (.getfield 40, 3) := by decide +kernel
theorem dX3_letterCount_7 : decode cX3_letterCount 7 = .ok (.ireturn, 1) := by decide +kernel
