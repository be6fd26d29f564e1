theorem dX12_put_0 : decode cX12_put 0 = .ok (.iconst 0, 1) := by decide +kernel
theorem dX12_put_1 : decode cX12_put 1 = .ok (.istore 5, 2) := by decide +kernel
theorem dX12_put_3 : decode cX12_put 3 = .ok (.iload 5, 2) := by decide +kernel
theorem dX12_put_5 : decode cX12_put 5 = .ok (.iload 4, 2) := by decide +kernel
theorem dX12_put_7 : decode cX12_put 7 = .ok (.if_icmp .ge 35, 3) := by decide +kernel
theorem dX12_put_10 : decode cX12_put 10 = .ok (.aload_n 0, 1) := by decide +kernel
theorem dX12_put_11 : decode cX12_put 11 = .ok (.getfield 17, 3) := by decide +kernel
theorem dX12_put_14 : decode cX12_put 14 = .ok (.sipush 128, 3) := by decide +kernel
theorem dX12_put_17 : decode cX12_put 17 = .ok (.iload_n 1, 1) := by decide +kernel
theorem dX12_put_18 : decode cX12_put 18 = .ok (.imul, 1) := by decide +kernel
theorem dX12_put_19 : decode cX12_put 19 = .ok (.aload_n 0, 1) := by decide +kernel
theorem dX12_put_20 : decode cX12_put 20 = .ok (.getfield 13, 3) := by decide +kernel
theorem dX12_put_23 : decode cX12_put 23 = .ok (.iload_n 1, 1) := by decide +kernel
theorem dX12_put_24 : decode cX12_put 24 = .ok (.iaload, 1) := by decide +kernel
theorem dX12_put_25 : decode cX12_put 25 = .ok (.iadd, 1) := by decide +kernel
theorem dX12_put_26 : decode cX12_put 26 = .ok (.iload 5, 2) := by decide +kernel
theorem dX12_put_28 : decode cX12_put 28 = .ok (.iadd, 1) := by decide +kernel
theorem dX12_put_29 : decode cX12_put 29 = .ok (.aload_n 2, 1) := by decide +kernel
theorem dX12_put_30 : decode cX12_put 30 = .ok (.iload_n 3, 1) := by decide +kernel
theorem dX12_put_31 : decode cX12_put 31 = .ok (.iload 5, 2) := by decide +kernel
theorem dX12_put_33 : decode cX12_put 33 = .ok (.iadd, 1) := by decide +kernel
theorem dX12_put_34 : decode cX12_put 34 = .ok (.iaload, 1) := by decide +kernel
theorem dX12_put_35 : decode cX12_put 35 = .ok (.iastore, 1) := by decide +kernel
theorem dX12_put_36 : decode cX12_put 36 = .ok (.iinc 5 1, 3) := by decide +kernel
theorem dX12_put_39 : decode cX12_put 39 = .ok (.goto (-36), 3) := by decide +kernel
theorem dX12_put_42 : decode cX12_put 42 = .ok (.aload_n 0, 1) := by decide +kernel
theorem dX12_put_43 : decode cX12_put 43 = .ok (.getfield 13, 3) := by decide +kernel
theorem dX12_put_46 : decode cX12_put 46 = .ok (.iload_n 1, 1) := by decide +kernel
theorem dX12_put_47 : decode cX12_put 47 = .ok (.dup2, 1) := by decide +kernel
theorem dX12_put_48 : decode cX12_put 48 = .ok (.iaload, 1) := by decide +kernel
theorem dX12_put_49 : decode cX12_put 49 = .ok (.iload 4, 2) := by decide +kernel
theorem dX12_put_51 : decode cX12_put 51 = .ok (.iadd, 1) := by decide +kernel
theorem dX12_put_52 : decode cX12_put 52 = .ok (.iastore, 1) := by decide +kernel
theorem dX12_put_53 : decode cX12_put 53 = .ok (.return_, 1) := by decide +kernel
set_option maxRecDepth 20000 in
theorem ggX12_rank_X12_isSlot : GoodIn wsX12_rank wsX12_isSlot := goodIn_r _ [10, 11, 12, 13, 9, 14] (by decide +kernel) (by decide +kernel)
set_option maxRecDepth 20000 in
theorem gX12_rank_X12_isSlot : GoodIn wsX12_rank (va_wsS RX12 102 yX12_isSlot wsX12_isSlot) := goodIn_app (goodIn_of _ (by decide +kernel)) ggX12_rank_X12_isSlot
set_option maxRecDepth 20000 in
theorem ggX12_rank_X12_isMachine : GoodIn wsX12_rank wsX12_isMachine := goodIn_r _ [18, 19, 20, 45, 46, 47, 48, 49, 50, 51, 52, 53, 54, 55, 56, 57, 58, 59, 60, 61, 62, 63, 64, 65, 66, 67, 68, 69, 70, 71, 72, 73, 74, 75, 76, 77, 78] (by decide +kernel) (by decide +kernel)
set_option maxRecDepth 20000 in
theorem gX12_rank_X12_isMachine : GoodIn wsX12_rank (wsV RX12 229 RX12 yX12_isMachine wsX12_isMachine) := goodIn_app (goodIn_of _ (by decide +kernel)) ggX12_rank_X12_isMachine
set_option maxRecDepth 20000 in
theorem ggX12_rank_X12_copy : GoodIn wsX12_rank wsX12_copy := goodIn_r _ [24, 3, 6, 45, 46, 47, 48, 49, 50, 51, 52, 53, 54, 55, 56, 57, 58, 59, 60, 61, 62, 63, 64, 65, 66, 67, 68, 69, 70, 71, 72, 73, 74, 75, 76, 77, 78] (by decide +kernel) (by decide +kernel)
set_option maxRecDepth 20000 in
theorem gX12_rank_X12_copy : GoodIn wsX12_rank (wsV RX12 106 RX12 yX12_copy wsX12_copy) := goodIn_app (goodIn_of _ (by decide +kernel)) ggX12_rank_X12_copy
set_option maxRecDepth 20000 in
theorem ggX12_rank_X12_reduceAt : GoodIn wsX12_rank wsX12_reduceAt := goodIn_r _ [28, 3, 6, 29, 30, 31, 32, 33, 34, 45, 46, 47, 48, 49, 50, 51, 52, 53, 54, 55, 56, 57, 58, 59, 60, 61, 62, 63, 64, 65, 66, 67, 68, 69, 70, 71, 72, 73, 74, 75, 76, 77, 78] rfl (by decide +kernel)
set_option maxRecDepth 20000 in
theorem gX12_rank_X12_reduceAt : GoodIn wsX12_rank (wsV RX12 167 RX12 yX12_reduceAt wsX12_reduceAt) := goodIn_app (goodIn_of _ (by decide +kernel)) ggX12_rank_X12_reduceAt
set_option maxRecDepth 20000 in
theorem ggX12_rank_X12_onward : GoodIn wsX12_rank wsX12_onward := goodIn_r _ [38, 5, 39, 40, 41, 9, 42, 30, 43, 31, 44, 45, 46, 47, 48, 49, 50, 51, 52, 53, 54, 55, 56, 57, 58, 59, 60, 61, 62, 63, 64, 65, 66, 67, 68, 69, 70, 71, 72, 73, 74, 75, 76, 77, 78] rfl (by decide +kernel)
set_option maxRecDepth 20000 in
theorem gX12_rank_X12_onward : GoodIn wsX12_rank (wsV RX12 245 RX12 yX12_onward wsX12_onward) := goodIn_app (goodIn_of _ (by decide +kernel)) ggX12_rank_X12_onward
set_option maxRecDepth 20000 in
theorem ggX12_rank_X12_next : GoodIn wsX12_rank wsX12_next := goodIn_r _ [42, 30, 43, 31, 44, 45, 46, 47, 48, 49, 50, 51, 52, 53, 54, 55, 56, 57, 58, 59, 60, 61, 62, 63, 64, 65, 66, 67, 68, 69, 70, 71, 72, 73, 74, 75, 76, 77, 78] rfl (by decide +kernel)
set_option maxRecDepth 20000 in
theorem gX12_rank_X12_next : GoodIn wsX12_rank (wsV RX12 226 RX12 yX12_next wsX12_next) := goodIn_app (goodIn_of _ (by decide +kernel)) ggX12_rank_X12_next
theorem dX12_rank_0 : decode cX12_rank 0 = .ok (.iload_n 1, 1) := by decide +kernel
theorem dX12_rank_1 : decode cX12_rank 1 = .ok (.invokestatic 102, 3) := by decide +kernel
theorem dX12_rank_4 : decode cX12_rank 4 = .ok (.ifCond .ne 7, 3) := by decide +kernel
theorem dX12_rank_7 : decode cX12_rank 7 = .ok (.ldc2_w 253, 3) := by decide +kernel
theorem dX12_rank_10 : decode cX12_rank 10 = .ok (.lreturn, 1) := by decide +kernel
theorem dX12_rank_11 : decode cX12_rank 11 = .ok (.aload_n 0, 1) := by decide +kernel
theorem dX12_rank_12 : decode cX12_rank 12 = .ok (.invokevirtual 229, 3) := by decide +kernel
theorem dX12_rank_15 : decode cX12_rank 15 = .ok (.ifCond .ne 7, 3) := by decide +kernel
theorem dX12_rank_18 : decode cX12_rank 18 = .ok (.ldc2_w 236, 3) := by decide +kernel
theorem dX12_rank_21 : decode cX12_rank 21 = .ok (.lreturn, 1) := by decide +kernel
theorem dX12_rank_22 : decode cX12_rank 22 = .ok (.aload_n 0, 1) := by decide +kernel
theorem dX12_rank_23 : decode cX12_rank 23 = .ok (.iload_n 1, 1) := by decide +kernel
theorem dX12_rank_24 : decode cX12_rank 24 = .ok (.bipush 9, 2) := by decide +kernel
theorem dX12_rank_26 : decode cX12_rank 26 = .ok (.invokevirtual 106, 3) := by decide +kernel
theorem dX12_rank_29 : decode cX12_rank 29 = .ok (.aload_n 0, 1) := by decide +kernel
theorem dX12_rank_30 : decode cX12_rank 30 = .ok (.bipush 9, 2) := by decide +kernel
theorem dX12_rank_32 : decode cX12_rank 32 = .ok (.invokevirtual 167, 3) := by decide +kernel
theorem dX12_rank_35 : decode cX12_rank 35 = .ok (.aload_n 0, 1) := by decide +kernel
theorem dX12_rank_36 : decode cX12_rank 36 = .ok (.getfield 13, 3) := by decide +kernel
theorem dX12_rank_39 : decode cX12_rank 39 = .ok (.bipush 9, 2) := by decide +kernel
theorem dX12_rank_41 : decode cX12_rank 41 = .ok (.iaload, 1) := by decide +kernel
theorem dX12_rank_42 : decode cX12_rank 42 = .ok (.bipush 30, 2) := by decide +kernel
theorem dX12_rank_44 : decode cX12_rank 44 = .ok (.if_icmp .le 7, 3) := by decide +kernel
theorem dX12_rank_47 : decode cX12_rank 47 = .ok (.ldc2_w 243, 3) := by decide +kernel
theorem dX12_rank_50 : decode cX12_rank 50 = .ok (.lreturn, 1) := by decide +kernel
theorem dX12_rank_51 : decode cX12_rank 51 = .ok (.lconst 0, 1) := by decide +kernel
theorem dX12_rank_52 : decode cX12_rank 52 = .ok (.lstore_n 2, 1) := by decide +kernel
theorem dX12_rank_53 : decode cX12_rank 53 = .ok (.iconst 0, 1) := by decide +kernel
theorem dX12_rank_54 : decode cX12_rank 54 = .ok (.istore 4, 2) := by decide +kernel
theorem dX12_rank_56 : decode cX12_rank 56 = .ok (.iload 4, 2) := by decide +kernel
theorem dX12_rank_58 : decode cX12_rank 58 = .ok (.aload_n 0, 1) := by decide +kernel
theorem dX12_rank_59 : decode cX12_rank 59 = .ok (.getfield 13, 3) := by decide +kernel
theorem dX12_rank_62 : decode cX12_rank 62 = .ok (.bipush 9, 2) := by decide +kernel
theorem dX12_rank_64 : decode cX12_rank 64 = .ok (.iaload, 1) := by decide +kernel
theorem dX12_rank_65 : decode cX12_rank 65 = .ok (.if_icmp .ge 19, 3) := by decide +kernel
theorem dX12_rank_68 : decode cX12_rank 68 = .ok (.lload_n 2, 1) := by decide +kernel
theorem dX12_rank_69 : decode cX12_rank 69 = .ok (.aload_n 0, 1) := by decide +kernel
theorem dX12_rank_70 : decode cX12_rank 70 = .ok (.getfield 74, 3) := by decide +kernel
theorem dX12_rank_73 : decode cX12_rank 73 = .ok (.iload 4, 2) := by decide +kernel
theorem dX12_rank_75 : decode cX12_rank 75 = .ok (.laload, 1) := by decide +kernel
theorem dX12_rank_76 : decode cX12_rank 76 = .ok (.ladd, 1) := by decide +kernel
theorem dX12_rank_77 : decode cX12_rank 77 = .ok (.lstore_n 2, 1) := by decide +kernel
theorem dX12_rank_78 : decode cX12_rank 78 = .ok (.iinc 4 1, 3) := by decide +kernel
theorem dX12_rank_81 : decode cX12_rank 81 = .ok (.goto (-25), 3) := by decide +kernel
theorem dX12_rank_84 : decode cX12_rank 84 = .ok (.iconst 0, 1) := by decide +kernel
theorem dX12_rank_85 : decode cX12_rank 85 = .ok (.istore 4, 2) := by decide +kernel
theorem dX12_rank_87 : decode cX12_rank 87 = .ok (.iconst 0, 1) := by decide +kernel
theorem dX12_rank_88 : decode cX12_rank 88 = .ok (.istore 5, 2) := by decide +kernel
theorem dX12_rank_90 : decode cX12_rank 90 = .ok (.iload 5, 2) := by decide +kernel
theorem dX12_rank_92 : decode cX12_rank 92 = .ok (.aload_n 0, 1) := by decide +kernel
theorem dX12_rank_93 : decode cX12_rank 93 = .ok (.getfield 13, 3) := by decide +kernel
theorem dX12_rank_96 : decode cX12_rank 96 = .ok (.bipush 9, 2) := by decide +kernel
theorem dX12_rank_98 : decode cX12_rank 98 = .ok (.iaload, 1) := by decide +kernel
theorem dX12_rank_99 : decode cX12_rank 99 = .ok (.if_icmp .ge 71, 3) := by decide +kernel
theorem dX12_rank_102 : decode cX12_rank 102 = .ok (.aload_n 0, 1) := by decide +kernel
theorem dX12_rank_103 : decode cX12_rank 103 = .ok (.getfield 17, 3) := by decide +kernel
theorem dX12_rank_106 : decode cX12_rank 106 = .ok (.sipush 1152, 3) := by decide +kernel
theorem dX12_rank_109 : decode cX12_rank 109 = .ok (.iload 5, 2) := by decide +kernel
theorem dX12_rank_111 : decode cX12_rank 111 = .ok (.iadd, 1) := by decide +kernel
theorem dX12_rank_112 : decode cX12_rank 112 = .ok (.iaload, 1) := by decide +kernel
theorem dX12_rank_113 : decode cX12_rank 113 = .ok (.istore 6, 2) := by decide +kernel
theorem dX12_rank_115 : decode cX12_rank 115 = .ok (.iconst 0, 1) := by decide +kernel
theorem dX12_rank_116 : decode cX12_rank 116 = .ok (.istore 7, 2) := by decide +kernel
theorem dX12_rank_118 : decode cX12_rank 118 = .ok (.iload 7, 2) := by decide +kernel
theorem dX12_rank_120 : decode cX12_rank 120 = .ok (.iload 6, 2) := by decide +kernel
theorem dX12_rank_122 : decode cX12_rank 122 = .ok (.if_icmp .ge 32, 3) := by decide +kernel
theorem dX12_rank_125 : decode cX12_rank 125 = .ok (.lload_n 2, 1) := by decide +kernel
theorem dX12_rank_126 : decode cX12_rank 126 = .ok (.aload_n 0, 1) := by decide +kernel
theorem dX12_rank_127 : decode cX12_rank 127 = .ok (.iload 4, 2) := by decide +kernel
theorem dX12_rank_129 : decode cX12_rank 129 = .ok (.iload 7, 2) := by decide +kernel
theorem dX12_rank_131 : decode cX12_rank 131 = .ok (.aload_n 0, 1) := by decide +kernel
theorem dX12_rank_132 : decode cX12_rank 132 = .ok (.getfield 13, 3) := by decide +kernel
theorem dX12_rank_135 : decode cX12_rank 135 = .ok (.bipush 9, 2) := by decide +kernel
theorem dX12_rank_137 : decode cX12_rank 137 = .ok (.iaload, 1) := by decide +kernel
theorem dX12_rank_138 : decode cX12_rank 138 = .ok (.iload 5, 2) := by decide +kernel
theorem dX12_rank_140 : decode cX12_rank 140 = .ok (.isub, 1) := by decide +kernel
theorem dX12_rank_141 : decode cX12_rank 141 = .ok (.iconst 1, 1) := by decide +kernel
theorem dX12_rank_142 : decode cX12_rank 142 = .ok (.isub, 1) := by decide +kernel
theorem dX12_rank_143 : decode cX12_rank 143 = .ok (.invokevirtual 245, 3) := by decide +kernel
theorem dX12_rank_146 : decode cX12_rank 146 = .ok (.ladd, 1) := by decide +kernel
theorem dX12_rank_147 : decode cX12_rank 147 = .ok (.lstore_n 2, 1) := by decide +kernel
theorem dX12_rank_148 : decode cX12_rank 148 = .ok (.iinc 7 1, 3) := by decide +kernel
theorem dX12_rank_151 : decode cX12_rank 151 = .ok (.goto (-33), 3) := by decide +kernel
theorem dX12_rank_154 : decode cX12_rank 154 = .ok (.aload_n 0, 1) := by decide +kernel
theorem dX12_rank_155 : decode cX12_rank 155 = .ok (.iload 4, 2) := by decide +kernel
theorem dX12_rank_157 : decode cX12_rank 157 = .ok (.iload 6, 2) := by decide +kernel
theorem dX12_rank_159 : decode cX12_rank 159 = .ok (.invokevirtual 226, 3) := by decide +kernel
theorem dX12_rank_162 : decode cX12_rank 162 = .ok (.istore 4, 2) := by decide +kernel
theorem dX12_rank_164 : decode cX12_rank 164 = .ok (.iinc 5 1, 3) := by decide +kernel
theorem dX12_rank_167 : decode cX12_rank 167 = .ok (.goto (-77), 3) := by decide +kernel
theorem dX12_rank_170 : decode cX12_rank 170 = .ok (.lload_n 2, 1) := by decide +kernel
theorem dX12_rank_171 : decode cX12_rank 171 = .ok (.lreturn, 1) := by decide +kernel
set_option maxRecDepth 20000 in
theorem ggX12_reduce_X12_isSlot : GoodIn wsX12_reduce wsX12_isSlot := goodIn_r _ [5, 6, 7, 8, 4, 9] (by decide +kernel) (by decide +kernel)
set_option maxRecDepth 20000 in
theorem gX12_reduce_X12_isSlot : GoodIn wsX12_reduce (va_wsS RX12 102 yX12_isSlot wsX12_isSlot) := goodIn_app (goodIn_of _ (by decide +kernel)) ggX12_reduce_X12_isSlot
set_option maxRecDepth 20000 in
theorem ggX12_reduce_X12_reduced : GoodIn wsX12_reduce wsX12_reduced := goodIn_r _ [13, 14, 15, 1, 16, 17, 18, 19, 20, 21, 22, 23, 4, 24, 25, 26, 27, 28, 29, 30, 31, 32, 33, 34, 35, 36, 37, 38, 39, 40, 41, 42, 43, 44, 45, 46, 47, 48, 49, 50, 51, 52, 53, 54, 55, 56, 57, 58, 59, 60, 61, 62, 63, 64, 65, 66, 67, 68, 69, 70, 71, 72, 73, 74, 75, 76, 77, 78, 79, 80, 81] rfl (by decide +kernel)
set_option maxRecDepth 20000 in
theorem gX12_reduce_X12_reduced : GoodIn wsX12_reduce (wsV RX12 222 RX12 yX12_reduced wsX12_reduced) := goodIn_app (goodIn_of _ (by decide +kernel)) ggX12_reduce_X12_reduced
set_option maxRecDepth 20000 in
theorem ggX12_reduce_X12_copy : GoodIn wsX12_reduce wsX12_copy := goodIn_r _ [24, 1, 17, 48, 49, 50, 51, 52, 53, 54, 55, 56, 57, 58, 59, 60, 61, 62, 63, 64, 65, 66, 67, 68, 69, 70, 71, 72, 73, 74, 75, 76, 77, 78, 79, 80, 81] (by decide +kernel) (by decide +kernel)
set_option maxRecDepth 20000 in
theorem gX12_reduce_X12_copy : GoodIn wsX12_reduce (wsV RX12 106 RX12 yX12_copy wsX12_copy) := goodIn_app (goodIn_of _ (by decide +kernel)) ggX12_reduce_X12_copy
theorem dX12_reduce_0 : decode cX12_reduce 0 = .ok (.iload_n 1, 1) := by decide +kernel
theorem dX12_reduce_1 : decode cX12_reduce 1 = .ok (.invokestatic 102, 3) := by decide +kernel
theorem dX12_reduce_4 : decode cX12_reduce 4 = .ok (.ifCond .eq 10, 3) := by decide +kernel
theorem dX12_reduce_7 : decode cX12_reduce 7 = .ok (.iload_n 2, 1) := by decide +kernel
theorem dX12_reduce_8 : decode cX12_reduce 8 = .ok (.invokestatic 102, 3) := by decide +kernel
theorem dX12_reduce_11 : decode cX12_reduce 11 = .ok (.ifCond .ne 5, 3) := by decide +kernel
theorem dX12_reduce_14 : decode cX12_reduce 14 = .ok (.iconst (-1), 1) := by decide +kernel
theorem dX12_reduce_15 : decode cX12_reduce 15 = .ok (.ireturn, 1) := by decide +kernel
theorem dX12_reduce_16 : decode cX12_reduce 16 = .ok (.aload_n 0, 1) := by decide +kernel
theorem dX12_reduce_17 : decode cX12_reduce 17 = .ok (.iload_n 1, 1) := by decide +kernel
theorem dX12_reduce_18 : decode cX12_reduce 18 = .ok (.bipush 9, 2) := by decide +kernel
theorem dX12_reduce_20 : decode cX12_reduce 20 = .ok (.invokevirtual 222, 3) := by decide +kernel
theorem dX12_reduce_23 : decode cX12_reduce 23 = .ok (.istore_n 3, 1) := by decide +kernel
theorem dX12_reduce_24 : decode cX12_reduce 24 = .ok (.iload_n 3, 1) := by decide +kernel
theorem dX12_reduce_25 : decode cX12_reduce 25 = .ok (.ifCond .ge 5, 3) := by decide +kernel
theorem dX12_reduce_28 : decode cX12_reduce 28 = .ok (.iload_n 3, 1) := by decide +kernel
theorem dX12_reduce_29 : decode cX12_reduce 29 = .ok (.ireturn, 1) := by decide +kernel
theorem dX12_reduce_30 : decode cX12_reduce 30 = .ok (.aload_n 0, 1) := by decide +kernel
theorem dX12_reduce_31 : decode cX12_reduce 31 = .ok (.bipush 9, 2) := by decide +kernel
theorem dX12_reduce_33 : decode cX12_reduce 33 = .ok (.iload_n 2, 1) := by decide +kernel
theorem dX12_reduce_34 : decode cX12_reduce 34 = .ok (.invokevirtual 106, 3) := by decide +kernel
theorem dX12_reduce_37 : decode cX12_reduce 37 = .ok (.aload_n 0, 1) := by decide +kernel
theorem dX12_reduce_38 : decode cX12_reduce 38 = .ok (.getfield 13, 3) := by decide +kernel
theorem dX12_reduce_41 : decode cX12_reduce 41 = .ok (.iload_n 2, 1) := by decide +kernel
theorem dX12_reduce_42 : decode cX12_reduce 42 = .ok (.iaload, 1) := by decide +kernel
theorem dX12_reduce_43 : decode cX12_reduce 43 = .ok (.ireturn, 1) := by decide +kernel
theorem dX12_reduceAt_0 : decode cX12_reduceAt 0 = .ok (.iconst 0, 1) := by decide +kernel
theorem dX12_reduceAt_1 : decode cX12_reduceAt 1 = .ok (.istore_n 2, 1) := by decide +kernel
theorem dX12_reduceAt_2 : decode cX12_reduceAt 2 = .ok (.aload_n 0, 1) := by decide +kernel
theorem dX12_reduceAt_3 : decode cX12_reduceAt 3 = .ok (.getfield 13, 3) := by decide +kernel
theorem dX12_reduceAt_6 : decode cX12_reduceAt 6 = .ok (.iload_n 1, 1) := by decide +kernel
theorem dX12_reduceAt_7 : decode cX12_reduceAt 7 = .ok (.iaload, 1) := by decide +kernel
theorem dX12_reduceAt_8 : decode cX12_reduceAt 8 = .ok (.iconst 1, 1) := by decide +kernel
theorem dX12_reduceAt_9 : decode cX12_reduceAt 9 = .ok (.isub, 1) := by decide +kernel
theorem dX12_reduceAt_10 : decode cX12_reduceAt 10 = .ok (.istore_n 3, 1) := by decide +kernel
theorem dX12_reduceAt_11 : decode cX12_reduceAt 11 = .ok (.iload_n 3, 1) := by decide +kernel
theorem dX12_reduceAt_12 : decode cX12_reduceAt 12 = .ok (.ifCond .lt 34, 3) := by decide +kernel
theorem dX12_reduceAt_15 : decode cX12_reduceAt 15 = .ok (.aload_n 0, 1) := by decide +kernel
theorem dX12_reduceAt_16 : decode cX12_reduceAt 16 = .ok (.getfield 17, 3) := by decide +kernel
theorem dX12_reduceAt_19 : decode cX12_reduceAt 19 = .ok (.sipush 1408, 3) := by decide +kernel
theorem dX12_reduceAt_22 : decode cX12_reduceAt 22 = .ok (.iload_n 2, 1) := by decide +kernel
theorem dX12_reduceAt_23 : decode cX12_reduceAt 23 = .ok (.iadd, 1) := by decide +kernel
theorem dX12_reduceAt_24 : decode cX12_reduceAt 24 = .ok (.aload_n 0, 1) := by decide +kernel
theorem dX12_reduceAt_25 : decode cX12_reduceAt 25 = .ok (.getfield 17, 3) := by decide +kernel
theorem dX12_reduceAt_28 : decode cX12_reduceAt 28 = .ok (.sipush 128, 3) := by decide +kernel
theorem dX12_reduceAt_31 : decode cX12_reduceAt 31 = .ok (.iload_n 1, 1) := by decide +kernel
theorem dX12_reduceAt_32 : decode cX12_reduceAt 32 = .ok (.imul, 1) := by decide +kernel
theorem dX12_reduceAt_33 : decode cX12_reduceAt 33 = .ok (.iload_n 3, 1) := by decide +kernel
theorem dX12_reduceAt_34 : decode cX12_reduceAt 34 = .ok (.iadd, 1) := by decide +kernel
theorem dX12_reduceAt_35 : decode cX12_reduceAt 35 = .ok (.iaload, 1) := by decide +kernel
theorem dX12_reduceAt_36 : decode cX12_reduceAt 36 = .ok (.iastore, 1) := by decide +kernel
theorem dX12_reduceAt_37 : decode cX12_reduceAt 37 = .ok (.iinc 2 1, 3) := by decide +kernel
theorem dX12_reduceAt_40 : decode cX12_reduceAt 40 = .ok (.iinc 3 (-1), 3) := by decide +kernel
theorem dX12_reduceAt_43 : decode cX12_reduceAt 43 = .ok (.goto (-32), 3) := by decide +kernel
theorem dX12_reduceAt_46 : decode cX12_reduceAt 46 = .ok (.iconst 0, 1) := by decide +kernel
theorem dX12_reduceAt_47 : decode cX12_reduceAt 47 = .ok (.istore_n 3, 1) := by decide +kernel
theorem dX12_reduceAt_48 : decode cX12_reduceAt 48 = .ok (.aload_n 0, 1) := by decide +kernel
theorem dX12_reduceAt_49 : decode cX12_reduceAt 49 = .ok (.getfield 71, 3) := by decide +kernel
theorem dX12_reduceAt_52 : decode cX12_reduceAt 52 = .ok (.iconst 0, 1) := by decide +kernel
theorem dX12_reduceAt_53 : decode cX12_reduceAt 53 = .ok (.iconst 0, 1) := by decide +kernel
theorem dX12_reduceAt_54 : decode cX12_reduceAt 54 = .ok (.iastore, 1) := by decide +kernel
theorem dX12_reduceAt_55 : decode cX12_reduceAt 55 = .ok (.iload_n 2, 1) := by decide +kernel
theorem dX12_reduceAt_56 : decode cX12_reduceAt 56 = .ok (.ifCond .le 138, 3) := by decide +kernel
theorem dX12_reduceAt_59 : decode cX12_reduceAt 59 = .ok (.iinc 2 (-1), 3) := by decide +kernel
theorem dX12_reduceAt_62 : decode cX12_reduceAt 62 = .ok (.aload_n 0, 1) := by decide +kernel
theorem dX12_reduceAt_63 : decode cX12_reduceAt 63 = .ok (.getfield 17, 3) := by decide +kernel
theorem dX12_reduceAt_66 : decode cX12_reduceAt 66 = .ok (.sipush 1408, 3) := by decide +kernel
theorem dX12_reduceAt_69 : decode cX12_reduceAt 69 = .ok (.iload_n 2, 1) := by decide +kernel
theorem dX12_reduceAt_70 : decode cX12_reduceAt 70 = .ok (.iadd, 1) := by decide +kernel
theorem dX12_reduceAt_71 : decode cX12_reduceAt 71 = .ok (.iaload, 1) := by decide +kernel
theorem dX12_reduceAt_72 : decode cX12_reduceAt 72 = .ok (.istore 4, 2) := by decide +kernel
theorem dX12_reduceAt_74 : decode cX12_reduceAt 74 = .ok (.aload_n 0, 1) := by decide +kernel
theorem dX12_reduceAt_75 : decode cX12_reduceAt 75 = .ok (.getfield 53, 3) := by decide +kernel
theorem dX12_reduceAt_78 : decode cX12_reduceAt 78 = .ok (.iconst 4, 1) := by decide +kernel
theorem dX12_reduceAt_79 : decode cX12_reduceAt 79 = .ok (.aload_n 0, 1) := by decide +kernel
theorem dX12_reduceAt_80 : decode cX12_reduceAt 80 = .ok (.getfield 71, 3) := by decide +kernel
theorem dX12_reduceAt_83 : decode cX12_reduceAt 83 = .ok (.iload_n 3, 1) := by decide +kernel
theorem dX12_reduceAt_84 : decode cX12_reduceAt 84 = .ok (.iaload, 1) := by decide +kernel
theorem dX12_reduceAt_85 : decode cX12_reduceAt 85 = .ok (.imul, 1) := by decide +kernel
theorem dX12_reduceAt_86 : decode cX12_reduceAt 86 = .ok (.iload 4, 2) := by decide +kernel
theorem dX12_reduceAt_88 : decode cX12_reduceAt 88 = .ok (.iadd, 1) := by decide +kernel
theorem dX12_reduceAt_89 : decode cX12_reduceAt 89 = .ok (.iaload, 1) := by decide +kernel
theorem dX12_reduceAt_90 : decode cX12_reduceAt 90 = .ok (.istore 5, 2) := by decide +kernel
theorem dX12_reduceAt_92 : decode cX12_reduceAt 92 = .ok (.aload_n 0, 1) := by decide +kernel
theorem dX12_reduceAt_93 : decode cX12_reduceAt 93 = .ok (.getfield 17, 3) := by decide +kernel
theorem dX12_reduceAt_96 : decode cX12_reduceAt 96 = .ok (.sipush 128, 3) := by decide +kernel
theorem dX12_reduceAt_99 : decode cX12_reduceAt 99 = .ok (.iload_n 1, 1) := by decide +kernel
theorem dX12_reduceAt_100 : decode cX12_reduceAt 100 = .ok (.imul, 1) := by decide +kernel
theorem dX12_reduceAt_101 : decode cX12_reduceAt 101 = .ok (.iload_n 3, 1) := by decide +kernel
theorem dX12_reduceAt_102 : decode cX12_reduceAt 102 = .ok (.iadd, 1) := by decide +kernel
theorem dX12_reduceAt_103 : decode cX12_reduceAt 103 = .ok (.iload 4, 2) := by decide +kernel
theorem dX12_reduceAt_105 : decode cX12_reduceAt 105 = .ok (.iastore, 1) := by decide +kernel
theorem dX12_reduceAt_106 : decode cX12_reduceAt 106 = .ok (.iinc 3 1, 3) := by decide +kernel
theorem dX12_reduceAt_109 : decode cX12_reduceAt 109 = .ok (.aload_n 0, 1) := by decide +kernel
theorem dX12_reduceAt_110 : decode cX12_reduceAt 110 = .ok (.getfield 71, 3) := by decide +kernel
theorem dX12_reduceAt_113 : decode cX12_reduceAt 113 = .ok (.iload_n 3, 1) := by decide +kernel
theorem dX12_reduceAt_114 : decode cX12_reduceAt 114 = .ok (.iload 5, 2) := by decide +kernel
theorem dX12_reduceAt_116 : decode cX12_reduceAt 116 = .ok (.iastore, 1) := by decide +kernel
theorem dX12_reduceAt_117 : decode cX12_reduceAt 117 = .ok (.aload_n 0, 1) := by decide +kernel
theorem dX12_reduceAt_118 : decode cX12_reduceAt 118 = .ok (.getfield 59, 3) := by decide +kernel
theorem dX12_reduceAt_121 : decode cX12_reduceAt 121 = .ok (.iload 5, 2) := by decide +kernel
theorem dX12_reduceAt_123 : decode cX12_reduceAt 123 = .ok (.iaload, 1) := by decide +kernel
theorem dX12_reduceAt_124 : decode cX12_reduceAt 124 = .ok (.istore 6, 2) := by decide +kernel
theorem dX12_reduceAt_126 : decode cX12_reduceAt 126 = .ok (.iload 6, 2) := by decide +kernel
theorem dX12_reduceAt_128 : decode cX12_reduceAt 128 = .ok (.bipush (-9), 2) := by decide +kernel
theorem dX12_reduceAt_130 : decode cX12_reduceAt 130 = .ok (.if_icmp .eq 61, 3) := by decide +kernel
theorem dX12_reduceAt_133 : decode cX12_reduceAt 133 = .ok (.iload_n 3, 1) := by decide +kernel
theorem dX12_reduceAt_134 : decode cX12_reduceAt 134 = .ok (.aload_n 0, 1) := by decide +kernel
theorem dX12_reduceAt_135 : decode cX12_reduceAt 135 = .ok (.getfield 38, 3) := by decide +kernel
theorem dX12_reduceAt_138 : decode cX12_reduceAt 138 = .ok (.iload 6, 2) := by decide +kernel
theorem dX12_reduceAt_140 : decode cX12_reduceAt 140 = .ok (.iaload, 1) := by decide +kernel
theorem dX12_reduceAt_141 : decode cX12_reduceAt 141 = .ok (.isub, 1) := by decide +kernel
theorem dX12_reduceAt_142 : decode cX12_reduceAt 142 = .ok (.istore_n 3, 1) := by decide +kernel
theorem dX12_reduceAt_143 : decode cX12_reduceAt 143 = .ok (.aload_n 0, 1) := by decide +kernel
theorem dX12_reduceAt_144 : decode cX12_reduceAt 144 = .ok (.getfield 44, 3) := by decide +kernel
theorem dX12_reduceAt_147 : decode cX12_reduceAt 147 = .ok (.iload 6, 2) := by decide +kernel
theorem dX12_reduceAt_149 : decode cX12_reduceAt 149 = .ok (.iaload, 1) := by decide +kernel
theorem dX12_reduceAt_150 : decode cX12_reduceAt 150 = .ok (.iconst 1, 1) := by decide +kernel
theorem dX12_reduceAt_151 : decode cX12_reduceAt 151 = .ok (.isub, 1) := by decide +kernel
theorem dX12_reduceAt_152 : decode cX12_reduceAt 152 = .ok (.istore 7, 2) := by decide +kernel
theorem dX12_reduceAt_154 : decode cX12_reduceAt 154 = .ok (.iload 7, 2) := by decide +kernel
theorem dX12_reduceAt_156 : decode cX12_reduceAt 156 = .ok (.ifCond .lt 35, 3) := by decide +kernel
theorem dX12_reduceAt_159 : decode cX12_reduceAt 159 = .ok (.aload_n 0, 1) := by decide +kernel
theorem dX12_reduceAt_160 : decode cX12_reduceAt 160 = .ok (.getfield 17, 3) := by decide +kernel
theorem dX12_reduceAt_163 : decode cX12_reduceAt 163 = .ok (.sipush 1408, 3) := by decide +kernel
theorem dX12_reduceAt_166 : decode cX12_reduceAt 166 = .ok (.iload_n 2, 1) := by decide +kernel
theorem dX12_reduceAt_167 : decode cX12_reduceAt 167 = .ok (.iadd, 1) := by decide +kernel
theorem dX12_reduceAt_168 : decode cX12_reduceAt 168 = .ok (.aload_n 0, 1) := by decide +kernel
theorem dX12_reduceAt_169 : decode cX12_reduceAt 169 = .ok (.getfield 47, 3) := by decide +kernel
theorem dX12_reduceAt_172 : decode cX12_reduceAt 172 = .ok (.bipush 24, 2) := by decide +kernel
theorem dX12_reduceAt_174 : decode cX12_reduceAt 174 = .ok (.iload 6, 2) := by decide +kernel
theorem dX12_reduceAt_176 : decode cX12_reduceAt 176 = .ok (.imul, 1) := by decide +kernel
theorem dX12_reduceAt_177 : decode cX12_reduceAt 177 = .ok (.iload 7, 2) := by decide +kernel
theorem dX12_reduceAt_179 : decode cX12_reduceAt 179 = .ok (.iadd, 1) := by decide +kernel
theorem dX12_reduceAt_180 : decode cX12_reduceAt 180 = .ok (.iaload, 1) := by decide +kernel
theorem dX12_reduceAt_181 : decode cX12_reduceAt 181 = .ok (.iastore, 1) := by decide +kernel
theorem dX12_reduceAt_182 : decode cX12_reduceAt 182 = .ok (.iinc 2 1, 3) := by decide +kernel
theorem dX12_reduceAt_185 : decode cX12_reduceAt 185 = .ok (.iinc 7 (-1), 3) := by decide +kernel
theorem dX12_reduceAt_188 : decode cX12_reduceAt 188 = .ok (.goto (-34), 3) := by decide +kernel
theorem dX12_reduceAt_191 : decode cX12_reduceAt 191 = .ok (.goto (-136), 3) := by decide +kernel
theorem dX12_reduceAt_194 : decode cX12_reduceAt 194 = .ok (.aload_n 0, 1) := by decide +kernel
theorem dX12_reduceAt_195 : decode cX12_reduceAt 195 = .ok (.getfield 13, 3) := by decide +kernel
theorem dX12_reduceAt_198 : decode cX12_reduceAt 198 = .ok (.iload_n 1, 1) := by decide +kernel
theorem dX12_reduceAt_199 : decode cX12_reduceAt 199 = .ok (.iload_n 3, 1) := by decide +kernel
theorem dX12_reduceAt_200 : decode cX12_reduceAt 200 = .ok (.iastore, 1) := by decide +kernel
theorem dX12_reduceAt_201 : decode cX12_reduceAt 201 = .ok (.return_, 1) := by decide +kernel
set_option maxRecDepth 20000 in
theorem ggX12_reduced_X12_copy : GoodIn wsX12_reduced wsX12_copy := goodIn_r _ [13, 3, 5, 37, 38, 39, 40, 41, 42, 43, 44, 45, 46, 47, 48, 49, 50, 51, 52, 53, 54, 55, 56, 57, 58, 59, 60, 61, 62, 63, 64, 65, 66, 67, 68, 69, 70] (by decide +kernel) (by decide +kernel)
set_option maxRecDepth 20000 in
theorem gX12_reduced_X12_copy : GoodIn wsX12_reduced (wsV RX12 106 RX12 yX12_copy wsX12_copy) := goodIn_app (goodIn_of _ (by decide +kernel)) ggX12_reduced_X12_copy
set_option maxRecDepth 20000 in
theorem ggX12_reduced_X12_reduceAt : GoodIn wsX12_reduced wsX12_reduceAt := goodIn_r _ [17, 3, 5, 18, 19, 20, 21, 22, 23, 37, 38, 39, 40, 41, 42, 43, 44, 45, 46, 47, 48, 49, 50, 51, 52, 53, 54, 55, 56, 57, 58, 59, 60, 61, 62, 63, 64, 65, 66, 67, 68, 69, 70] rfl (by decide +kernel)
set_option maxRecDepth 20000 in
theorem gX12_reduced_X12_reduceAt : GoodIn wsX12_reduced (wsV RX12 167 RX12 yX12_reduceAt wsX12_reduceAt) := goodIn_app (goodIn_of _ (by decide +kernel)) ggX12_reduced_X12_reduceAt
set_option maxRecDepth 20000 in
theorem ggX12_reduced_X12_root : GoodIn wsX12_reduced wsX12_root := goodIn_r _ [27, 28, 37, 38, 39, 40, 41, 42, 43, 44, 45, 46, 47, 48, 49, 50, 51, 52, 53, 54, 55, 56, 57, 58, 59, 60, 61, 62, 63, 64, 65, 66, 67, 68, 69, 70] (by decide +kernel) (by decide +kernel)
set_option maxRecDepth 20000 in
theorem gX12_reduced_X12_root : GoodIn wsX12_reduced (wsV RX12 112 RX12 yX12_root wsX12_root) := goodIn_app (goodIn_of _ (by decide +kernel)) ggX12_reduced_X12_root
set_option maxRecDepth 20000 in
theorem ggX12_reduced_X12_layAny : GoodIn wsX12_reduced wsX12_layAny := goodIn_r _ [32, 4, 7, 8, 33, 34, 35, 12, 36, 6, 37, 38, 39, 40, 41, 42, 43, 44, 45, 46, 47, 48, 49, 50, 51, 52, 53, 54, 55, 56, 57, 58, 59, 60, 61, 62, 63, 64, 65, 66, 67, 68, 69, 70] rfl (by decide +kernel)
set_option maxRecDepth 20000 in
theorem gX12_reduced_X12_layAny : GoodIn wsX12_reduced (wsV RX12 145 RX12 yX12_layAny wsX12_layAny) := goodIn_app (goodIn_of _ (by decide +kernel)) ggX12_reduced_X12_layAny
theorem dX12_reduced_0 : decode cX12_reduced 0 = .ok (.aload_n 0, 1) := by decide +kernel
theorem dX12_reduced_1 : decode cX12_reduced 1 = .ok (.getfield 26, 3) := by decide +kernel
theorem dX12_reduced_4 : decode cX12_reduced 4 = .ok (.bipush (-9), 2) := by decide +kernel
theorem dX12_reduced_6 : decode cX12_reduced 6 = .ok (.if_icmp .eq 23, 3) := by decide +kernel
theorem dX12_reduced_9 : decode cX12_reduced 9 = .ok (.aload_n 0, 1) := by decide +kernel
theorem dX12_reduced_10 : decode cX12_reduced 10 = .ok (.getfield 215, 3) := by decide +kernel
theorem dX12_reduced_13 : decode cX12_reduced 13 = .ok (.ifCond .ne 19, 3) := by decide +kernel
theorem dX12_reduced_16 : decode cX12_reduced 16 = .ok (.aload_n 0, 1) := by decide +kernel
theorem dX12_reduced_17 : decode cX12_reduced 17 = .ok (.getfield 13, 3) := by decide +kernel
theorem dX12_reduced_20 : decode cX12_reduced 20 = .ok (.iload_n 1, 1) := by decide +kernel
theorem dX12_reduced_21 : decode cX12_reduced 21 = .ok (.iaload, 1) := by decide +kernel
theorem dX12_reduced_22 : decode cX12_reduced 22 = .ok (.aload_n 0, 1) := by decide +kernel
theorem dX12_reduced_23 : decode cX12_reduced 23 = .ok (.getfield 26, 3) := by decide +kernel
theorem dX12_reduced_26 : decode cX12_reduced 26 = .ok (.if_icmp .le 6, 3) := by decide +kernel
theorem dX12_reduced_29 : decode cX12_reduced 29 = .ok (.bipush (-3), 2) := by decide +kernel
theorem dX12_reduced_31 : decode cX12_reduced 31 = .ok (.ireturn, 1) := by decide +kernel
theorem dX12_reduced_32 : decode cX12_reduced 32 = .ok (.aload_n 0, 1) := by decide +kernel
theorem dX12_reduced_33 : decode cX12_reduced 33 = .ok (.iload_n 1, 1) := by decide +kernel
theorem dX12_reduced_34 : decode cX12_reduced 34 = .ok (.iload_n 2, 1) := by decide +kernel
theorem dX12_reduced_35 : decode cX12_reduced 35 = .ok (.invokevirtual 106, 3) := by decide +kernel
theorem dX12_reduced_38 : decode cX12_reduced 38 = .ok (.aload_n 0, 1) := by decide +kernel
theorem dX12_reduced_39 : decode cX12_reduced 39 = .ok (.getfield 215, 3) := by decide +kernel
theorem dX12_reduced_42 : decode cX12_reduced 42 = .ok (.ifCond .eq 10, 3) := by decide +kernel
theorem dX12_reduced_45 : decode cX12_reduced 45 = .ok (.aload_n 0, 1) := by decide +kernel
theorem dX12_reduced_46 : decode cX12_reduced 46 = .ok (.iload_n 2, 1) := by decide +kernel
theorem dX12_reduced_47 : decode cX12_reduced 47 = .ok (.invokevirtual 167, 3) := by decide +kernel
theorem dX12_reduced_50 : decode cX12_reduced 50 = .ok (.iconst 0, 1) := by decide +kernel
theorem dX12_reduced_51 : decode cX12_reduced 51 = .ok (.ireturn, 1) := by decide +kernel
theorem dX12_reduced_52 : decode cX12_reduced 52 = .ok (.aload_n 0, 1) := by decide +kernel
theorem dX12_reduced_53 : decode cX12_reduced 53 = .ok (.getfield 13, 3) := by decide +kernel
theorem dX12_reduced_56 : decode cX12_reduced 56 = .ok (.iload_n 1, 1) := by decide +kernel
theorem dX12_reduced_57 : decode cX12_reduced 57 = .ok (.iaload, 1) := by decide +kernel
theorem dX12_reduced_58 : decode cX12_reduced 58 = .ok (.istore_n 3, 1) := by decide +kernel
theorem dX12_reduced_59 : decode cX12_reduced 59 = .ok (.aload_n 0, 1) := by decide +kernel
theorem dX12_reduced_60 : decode cX12_reduced 60 = .ok (.getfield 7, 3) := by decide +kernel
theorem dX12_reduced_63 : decode cX12_reduced 63 = .ok (.iconst 1, 1) := by decide +kernel
theorem dX12_reduced_64 : decode cX12_reduced 64 = .ok (.if_icmp .le 64, 3) := by decide +kernel
theorem dX12_reduced_67 : decode cX12_reduced 67 = .ok (.iconst 0, 1) := by decide +kernel
theorem dX12_reduced_68 : decode cX12_reduced 68 = .ok (.istore 4, 2) := by decide +kernel
theorem dX12_reduced_70 : decode cX12_reduced 70 = .ok (.iconst 0, 1) := by decide +kernel
theorem dX12_reduced_71 : decode cX12_reduced 71 = .ok (.istore 5, 2) := by decide +kernel
theorem dX12_reduced_73 : decode cX12_reduced 73 = .ok (.iload 5, 2) := by decide +kernel
theorem dX12_reduced_75 : decode cX12_reduced 75 = .ok (.aload_n 0, 1) := by decide +kernel
theorem dX12_reduced_76 : decode cX12_reduced 76 = .ok (.getfield 13, 3) := by decide +kernel
theorem dX12_reduced_79 : decode cX12_reduced 79 = .ok (.iload_n 1, 1) := by decide +kernel
theorem dX12_reduced_80 : decode cX12_reduced 80 = .ok (.iaload, 1) := by decide +kernel
theorem dX12_reduced_81 : decode cX12_reduced 81 = .ok (.if_icmp .ge 32, 3) := by decide +kernel
theorem dX12_reduced_84 : decode cX12_reduced 84 = .ok (.iload 4, 2) := by decide +kernel
theorem dX12_reduced_86 : decode cX12_reduced 86 = .ok (.aload_n 0, 1) := by decide +kernel
theorem dX12_reduced_87 : decode cX12_reduced 87 = .ok (.getfield 7, 3) := by decide +kernel
theorem dX12_reduced_90 : decode cX12_reduced 90 = .ok (.imul, 1) := by decide +kernel
theorem dX12_reduced_91 : decode cX12_reduced 91 = .ok (.aload_n 0, 1) := by decide +kernel
theorem dX12_reduced_92 : decode cX12_reduced 92 = .ok (.getfield 17, 3) := by decide +kernel
theorem dX12_reduced_95 : decode cX12_reduced 95 = .ok (.sipush 128, 3) := by decide +kernel
theorem dX12_reduced_98 : decode cX12_reduced 98 = .ok (.iload_n 1, 1) := by decide +kernel
theorem dX12_reduced_99 : decode cX12_reduced 99 = .ok (.imul, 1) := by decide +kernel
theorem dX12_reduced_100 : decode cX12_reduced 100 = .ok (.iload 5, 2) := by decide +kernel
theorem dX12_reduced_102 : decode cX12_reduced 102 = .ok (.iadd, 1) := by decide +kernel
theorem dX12_reduced_103 : decode cX12_reduced 103 = .ok (.iaload, 1) := by decide +kernel
theorem dX12_reduced_104 : decode cX12_reduced 104 = .ok (.iadd, 1) := by decide +kernel
theorem dX12_reduced_105 : decode cX12_reduced 105 = .ok (.istore 4, 2) := by decide +kernel
theorem dX12_reduced_107 : decode cX12_reduced 107 = .ok (.iinc 5 1, 3) := by decide +kernel
theorem dX12_reduced_110 : decode cX12_reduced 110 = .ok (.goto (-37), 3) := by decide +kernel
theorem dX12_reduced_113 : decode cX12_reduced 113 = .ok (.aload_n 0, 1) := by decide +kernel
theorem dX12_reduced_114 : decode cX12_reduced 114 = .ok (.getfield 29, 3) := by decide +kernel
theorem dX12_reduced_117 : decode cX12_reduced 117 = .ok (.aload_n 0, 1) := by decide +kernel
theorem dX12_reduced_118 : decode cX12_reduced 118 = .ok (.getfield 13, 3) := by decide +kernel
theorem dX12_reduced_121 : decode cX12_reduced 121 = .ok (.iload_n 1, 1) := by decide +kernel
theorem dX12_reduced_122 : decode cX12_reduced 122 = .ok (.iaload, 1) := by decide +kernel
theorem dX12_reduced_123 : decode cX12_reduced 123 = .ok (.iaload, 1) := by decide +kernel
theorem dX12_reduced_124 : decode cX12_reduced 124 = .ok (.iload 4, 2) := by decide +kernel
theorem dX12_reduced_126 : decode cX12_reduced 126 = .ok (.iadd, 1) := by decide +kernel
theorem dX12_reduced_127 : decode cX12_reduced 127 = .ok (.istore_n 3, 1) := by decide +kernel
theorem dX12_reduced_128 : decode cX12_reduced 128 = .ok (.aload_n 0, 1) := by decide +kernel
theorem dX12_reduced_129 : decode cX12_reduced 129 = .ok (.aload_n 0, 1) := by decide +kernel
theorem dX12_reduced_130 : decode cX12_reduced 130 = .ok (.iload_n 3, 1) := by decide +kernel
theorem dX12_reduced_131 : decode cX12_reduced 131 = .ok (.invokevirtual 112, 3) := by decide +kernel
theorem dX12_reduced_134 : decode cX12_reduced 134 = .ok (.invokevirtual 145, 3) := by decide +kernel
theorem dX12_reduced_137 : decode cX12_reduced 137 = .ok (.aload_n 0, 1) := by decide +kernel
theorem dX12_reduced_138 : decode cX12_reduced 138 = .ok (.getfield 13, 3) := by decide +kernel
theorem dX12_reduced_141 : decode cX12_reduced 141 = .ok (.iload_n 2, 1) := by decide +kernel
theorem dX12_reduced_142 : decode cX12_reduced 142 = .ok (.aload_n 0, 1) := by decide +kernel
theorem dX12_reduced_143 : decode cX12_reduced 143 = .ok (.getfield 119, 3) := by decide +kernel
theorem dX12_reduced_146 : decode cX12_reduced 146 = .ok (.iastore, 1) := by decide +kernel
theorem dX12_reduced_147 : decode cX12_reduced 147 = .ok (.iconst 0, 1) := by decide +kernel
theorem dX12_reduced_148 : decode cX12_reduced 148 = .ok (.istore 4, 2) := by decide +kernel
theorem dX12_reduced_150 : decode cX12_reduced 150 = .ok (.iload 4, 2) := by decide +kernel
theorem dX12_reduced_152 : decode cX12_reduced 152 = .ok (.aload_n 0, 1) := by decide +kernel
theorem dX12_reduced_153 : decode cX12_reduced 153 = .ok (.getfield 119, 3) := by decide +kernel
theorem dX12_reduced_156 : decode cX12_reduced 156 = .ok (.if_icmp .ge 29, 3) := by decide +kernel
theorem dX12_reduced_159 : decode cX12_reduced 159 = .ok (.aload_n 0, 1) := by decide +kernel
theorem dX12_reduced_160 : decode cX12_reduced 160 = .ok (.getfield 17, 3) := by decide +kernel
theorem dX12_reduced_163 : decode cX12_reduced 163 = .ok (.sipush 128, 3) := by decide +kernel
theorem dX12_reduced_166 : decode cX12_reduced 166 = .ok (.iload_n 2, 1) := by decide +kernel
theorem dX12_reduced_167 : decode cX12_reduced 167 = .ok (.imul, 1) := by decide +kernel
theorem dX12_reduced_168 : decode cX12_reduced 168 = .ok (.iload 4, 2) := by decide +kernel
theorem dX12_reduced_170 : decode cX12_reduced 170 = .ok (.iadd, 1) := by decide +kernel
theorem dX12_reduced_171 : decode cX12_reduced 171 = .ok (.aload_n 0, 1) := by decide +kernel
theorem dX12_reduced_172 : decode cX12_reduced 172 = .ok (.getfield 35, 3) := by decide +kernel
theorem dX12_reduced_175 : decode cX12_reduced 175 = .ok (.iload 4, 2) := by decide +kernel
theorem dX12_reduced_177 : decode cX12_reduced 177 = .ok (.iaload, 1) := by decide +kernel
theorem dX12_reduced_178 : decode cX12_reduced 178 = .ok (.iastore, 1) := by decide +kernel
theorem dX12_reduced_179 : decode cX12_reduced 179 = .ok (.iinc 4 1, 3) := by decide +kernel
theorem dX12_reduced_182 : decode cX12_reduced 182 = .ok (.goto (-32), 3) := by decide +kernel
theorem dX12_reduced_185 : decode cX12_reduced 185 = .ok (.iconst 0, 1) := by decide +kernel
theorem dX12_reduced_186 : decode cX12_reduced 186 = .ok (.ireturn, 1) := by decide +kernel
theorem dX12_root_0 : decode cX12_root 0 = .ok (.iload_n 1, 1) := by decide +kernel
theorem dX12_root_1 : decode cX12_root 1 = .ok (.istore_n 2, 1) := by decide +kernel
theorem dX12_root_2 : decode cX12_root 2 = .ok (.aload_n 0, 1) := by decide +kernel
theorem dX12_root_3 : decode cX12_root 3 = .ok (.getfield 32, 3) := by decide +kernel
theorem dX12_root_6 : decode cX12_root 6 = .ok (.iload_n 2, 1) := by decide +kernel
theorem dX12_root_7 : decode cX12_root 7 = .ok (.iaload, 1) := by decide +kernel
theorem dX12_root_8 : decode cX12_root 8 = .ok (.iload_n 2, 1) := by decide +kernel
theorem dX12_root_9 : decode cX12_root 9 = .ok (.if_icmp .eq 30, 3) := by decide +kernel
theorem dX12_root_12 : decode cX12_root 12 = .ok (.aload_n 0, 1) := by decide +kernel
theorem dX12_root_13 : decode cX12_root 13 = .ok (.getfield 32, 3) := by decide +kernel
theorem dX12_root_16 : decode cX12_root 16 = .ok (.iload_n 2, 1) := by decide +kernel
theorem dX12_root_17 : decode cX12_root 17 = .ok (.aload_n 0, 1) := by decide +kernel
theorem dX12_root_18 : decode cX12_root 18 = .ok (.getfield 32, 3) := by decide +kernel
theorem dX12_root_21 : decode cX12_root 21 = .ok (.aload_n 0, 1) := by decide +kernel
theorem dX12_root_22 : decode cX12_root 22 = .ok (.getfield 32, 3) := by decide +kernel
theorem dX12_root_25 : decode cX12_root 25 = .ok (.iload_n 2, 1) := by decide +kernel
theorem dX12_root_26 : decode cX12_root 26 = .ok (.iaload, 1) := by decide +kernel
theorem dX12_root_27 : decode cX12_root 27 = .ok (.iaload, 1) := by decide +kernel
theorem dX12_root_28 : decode cX12_root 28 = .ok (.iastore, 1) := by decide +kernel
theorem dX12_root_29 : decode cX12_root 29 = .ok (.aload_n 0, 1) := by decide +kernel
theorem dX12_root_30 : decode cX12_root 30 = .ok (.getfield 32, 3) := by decide +kernel
theorem dX12_root_33 : decode cX12_root 33 = .ok (.iload_n 2, 1) := by decide +kernel
theorem dX12_root_34 : decode cX12_root 34 = .ok (.iaload, 1) := by decide +kernel
theorem dX12_root_35 : decode cX12_root 35 = .ok (.istore_n 2, 1) := by decide +kernel
theorem dX12_root_36 : decode cX12_root 36 = .ok (.goto (-34), 3) := by decide +kernel
theorem dX12_root_39 : decode cX12_root 39 = .ok (.iload_n 2, 1) := by decide +kernel
theorem dX12_root_40 : decode cX12_root 40 = .ok (.ireturn, 1) := by decide +kernel
set_option maxRecDepth 20000 in
theorem ggX12_rule_X12_in : GoodIn wsX12_rule wsX12_in := goodIn_r _ [10] (by decide +kernel) (by decide +kernel)
set_option maxRecDepth 20000 in
theorem gX12_rule_X12_in : GoodIn wsX12_rule (va_wsS RX12 93 yX12_in wsX12_in) := goodIn_app (goodIn_of _ (by decide +kernel)) ggX12_rule_X12_in
theorem dX12_rule_0 : decode cX12_rule 0 = .ok (.aload_n 0, 1) := by decide +kernel
theorem dX12_rule_1 : decode cX12_rule 1 = .ok (.getfield 26, 3) := by decide +kernel
theorem dX12_rule_4 : decode cX12_rule 4 = .ok (.bipush (-9), 2) := by decide +kernel
theorem dX12_rule_6 : decode cX12_rule 6 = .ok (.if_icmp .ne 6, 3) := by decide +kernel
theorem dX12_rule_9 : decode cX12_rule 9 = .ok (.bipush (-3), 2) := by decide +kernel
theorem dX12_rule_11 : decode cX12_rule 11 = .ok (.ireturn, 1) := by decide +kernel
theorem dX12_rule_12 : decode cX12_rule 12 = .ok (.iload_n 1, 1) := by decide +kernel
theorem dX12_rule_13 : decode cX12_rule 13 = .ok (.i2l, 1) := by decide +kernel
theorem dX12_rule_14 : decode cX12_rule 14 = .ok (.lconst 0, 1) := by decide +kernel
theorem dX12_rule_15 : decode cX12_rule 15 = .ok (.aload_n 0, 1) := by decide +kernel
theorem dX12_rule_16 : decode cX12_rule 16 = .ok (.getfield 139, 3) := by decide +kernel
theorem dX12_rule_19 : decode cX12_rule 19 = .ok (.iconst 1, 1) := by decide +kernel
theorem dX12_rule_20 : decode cX12_rule 20 = .ok (.isub, 1) := by decide +kernel
theorem dX12_rule_21 : decode cX12_rule 21 = .ok (.i2l, 1) := by decide +kernel
theorem dX12_rule_22 : decode cX12_rule 22 = .ok (.invokestatic 93, 3) := by decide +kernel
theorem dX12_rule_25 : decode cX12_rule 25 = .ok (.ifCond .ne 5, 3) := by decide +kernel
theorem dX12_rule_28 : decode cX12_rule 28 = .ok (.iconst (-1), 1) := by decide +kernel
theorem dX12_rule_29 : decode cX12_rule 29 = .ok (.ireturn, 1) := by decide +kernel
theorem dX12_rule_30 : decode cX12_rule 30 = .ok (.iload_n 2, 1) := by decide +kernel
theorem dX12_rule_31 : decode cX12_rule 31 = .ok (.ifCond .eq 12, 3) := by decide +kernel
theorem dX12_rule_34 : decode cX12_rule 34 = .ok (.aload_n 0, 1) := by decide +kernel
theorem dX12_rule_35 : decode cX12_rule 35 = .ok (.getfield 38, 3) := by decide +kernel
theorem dX12_rule_38 : decode cX12_rule 38 = .ok (.iload_n 1, 1) := by decide +kernel
theorem dX12_rule_39 : decode cX12_rule 39 = .ok (.iaload, 1) := by decide +kernel
theorem dX12_rule_40 : decode cX12_rule 40 = .ok (.goto 9, 3) := by decide +kernel
theorem dX12_rule_43 : decode cX12_rule 43 = .ok (.aload_n 0, 1) := by decide +kernel
theorem dX12_rule_44 : decode cX12_rule 44 = .ok (.getfield 44, 3) := by decide +kernel
theorem dX12_rule_47 : decode cX12_rule 47 = .ok (.iload_n 1, 1) := by decide +kernel
theorem dX12_rule_48 : decode cX12_rule 48 = .ok (.iaload, 1) := by decide +kernel
theorem dX12_rule_49 : decode cX12_rule 49 = .ok (.istore 4, 2) := by decide +kernel
theorem dX12_rule_51 : decode cX12_rule 51 = .ok (.iload_n 3, 1) := by decide +kernel
theorem dX12_rule_52 : decode cX12_rule 52 = .ok (.i2l, 1) := by decide +kernel
theorem dX12_rule_53 : decode cX12_rule 53 = .ok (.lconst 0, 1) := by decide +kernel
theorem dX12_rule_54 : decode cX12_rule 54 = .ok (.iload 4, 2) := by decide +kernel
theorem dX12_rule_56 : decode cX12_rule 56 = .ok (.iconst 1, 1) := by decide +kernel
theorem dX12_rule_57 : decode cX12_rule 57 = .ok (.isub, 1) := by decide +kernel
theorem dX12_rule_58 : decode cX12_rule 58 = .ok (.i2l, 1) := by decide +kernel
theorem dX12_rule_59 : decode cX12_rule 59 = .ok (.invokestatic 93, 3) := by decide +kernel
theorem dX12_rule_62 : decode cX12_rule 62 = .ok (.ifCond .ne 8, 3) := by decide +kernel
theorem dX12_rule_65 : decode cX12_rule 65 = .ok (.bipush (-9), 2) := by decide +kernel
theorem dX12_rule_67 : decode cX12_rule 67 = .ok (.goto 32, 3) := by decide +kernel
theorem dX12_rule_70 : decode cX12_rule 70 = .ok (.iload_n 2, 1) := by decide +kernel
theorem dX12_rule_71 : decode cX12_rule 71 = .ok (.ifCond .eq 17, 3) := by decide +kernel
theorem dX12_rule_74 : decode cX12_rule 74 = .ok (.aload_n 0, 1) := by decide +kernel
theorem dX12_rule_75 : decode cX12_rule 75 = .ok (.getfield 41, 3) := by decide +kernel
theorem dX12_rule_78 : decode cX12_rule 78 = .ok (.bipush 24, 2) := by decide +kernel
theorem dX12_rule_80 : decode cX12_rule 80 = .ok (.iload_n 1, 1) := by decide +kernel
theorem dX12_rule_81 : decode cX12_rule 81 = .ok (.imul, 1) := by decide +kernel
theorem dX12_rule_82 : decode cX12_rule 82 = .ok (.iload_n 3, 1) := by decide +kernel
theorem dX12_rule_83 : decode cX12_rule 83 = .ok (.iadd, 1) := by decide +kernel
theorem dX12_rule_84 : decode cX12_rule 84 = .ok (.iaload, 1) := by decide +kernel
theorem dX12_rule_85 : decode cX12_rule 85 = .ok (.goto 14, 3) := by decide +kernel
theorem dX12_rule_88 : decode cX12_rule 88 = .ok (.aload_n 0, 1) := by decide +kernel
theorem dX12_rule_89 : decode cX12_rule 89 = .ok (.getfield 47, 3) := by decide +kernel
theorem dX12_rule_92 : decode cX12_rule 92 = .ok (.bipush 24, 2) := by decide +kernel
theorem dX12_rule_94 : decode cX12_rule 94 = .ok (.iload_n 1, 1) := by decide +kernel
theorem dX12_rule_95 : decode cX12_rule 95 = .ok (.imul, 1) := by decide +kernel
theorem dX12_rule_96 : decode cX12_rule 96 = .ok (.iload_n 3, 1) := by decide +kernel
theorem dX12_rule_97 : decode cX12_rule 97 = .ok (.iadd, 1) := by decide +kernel
theorem dX12_rule_98 : decode cX12_rule 98 = .ok (.iaload, 1) := by decide +kernel
theorem dX12_rule_99 : decode cX12_rule 99 = .ok (.ireturn, 1) := by decide +kernel
