set_option maxRecDepth 20000 in
theorem ggX12_inverse_X12_isSlot : GoodIn wsX12_inverse wsX12_isSlot := goodIn_r _ [5, 6, 7, 8, 4, 9] (by decide +kernel) (by decide +kernel)
set_option maxRecDepth 20000 in
theorem gX12_inverse_X12_isSlot : GoodIn wsX12_inverse (va_wsS RX12 102 yX12_isSlot wsX12_isSlot) := goodIn_app (goodIn_of _ (by decide +kernel)) ggX12_inverse_X12_isSlot
set_option maxRecDepth 20000 in
theorem ggX12_inverse_X12_isMachine : GoodIn wsX12_inverse wsX12_isMachine := goodIn_r _ [13, 14, 15, 50, 51, 52, 53, 54, 55, 56, 57, 58, 59, 60, 61, 62, 63, 64, 65, 66, 67, 68, 69, 70, 71, 72, 73, 74, 75, 76, 77, 78, 79, 80, 81, 82, 83] (by decide +kernel) (by decide +kernel)
set_option maxRecDepth 20000 in
theorem gX12_inverse_X12_isMachine : GoodIn wsX12_inverse (wsV RX12 229 RX12 yX12_isMachine wsX12_isMachine) := goodIn_app (goodIn_of _ (by decide +kernel)) ggX12_inverse_X12_isMachine
set_option maxRecDepth 20000 in
theorem ggX12_inverse_X12_copy : GoodIn wsX12_inverse wsX12_copy := goodIn_r _ [19, 1, 20, 50, 51, 52, 53, 54, 55, 56, 57, 58, 59, 60, 61, 62, 63, 64, 65, 66, 67, 68, 69, 70, 71, 72, 73, 74, 75, 76, 77, 78, 79, 80, 81, 82, 83] (by decide +kernel) (by decide +kernel)
set_option maxRecDepth 20000 in
theorem gX12_inverse_X12_copy : GoodIn wsX12_inverse (wsV RX12 106 RX12 yX12_copy wsX12_copy) := goodIn_app (goodIn_of _ (by decide +kernel)) ggX12_inverse_X12_copy
set_option maxRecDepth 20000 in
theorem ggX12_inverse_X12_reduceAt : GoodIn wsX12_inverse wsX12_reduceAt := goodIn_r _ [24, 1, 20, 25, 26, 27, 28, 29, 30, 50, 51, 52, 53, 54, 55, 56, 57, 58, 59, 60, 61, 62, 63, 64, 65, 66, 67, 68, 69, 70, 71, 72, 73, 74, 75, 76, 77, 78, 79, 80, 81, 82, 83] rfl (by decide +kernel)
set_option maxRecDepth 20000 in
theorem gX12_inverse_X12_reduceAt : GoodIn wsX12_inverse (wsV RX12 167 RX12 yX12_reduceAt wsX12_reduceAt) := goodIn_app (goodIn_of _ (by decide +kernel)) ggX12_inverse_X12_reduceAt
set_option maxRecDepth 20000 in
theorem ggX12_inverse_X12_pick : GoodIn wsX12_inverse wsX12_pick := goodIn_r _ [34, 35, 1, 20, 36, 37, 38, 4, 39, 40, 41, 42, 43, 26, 44, 27, 45, 50, 51, 52, 53, 54, 55, 56, 57, 58, 59, 60, 61, 62, 63, 64, 65, 66, 67, 68, 69, 70, 71, 72, 73, 74, 75, 76, 77, 78, 79, 80, 81, 82, 83] rfl (by decide +kernel)
set_option maxRecDepth 20000 in
theorem gX12_inverse_X12_pick : GoodIn wsX12_inverse (wsV RX12 249 RX12 yX12_pick wsX12_pick) := goodIn_app (goodIn_of _ (by decide +kernel)) ggX12_inverse_X12_pick
set_option maxRecDepth 20000 in
theorem ggX12_inverse_X12_append : GoodIn wsX12_inverse wsX12_append := goodIn_r _ [49, 1, 20, 50, 51, 52, 53, 54, 55, 56, 57, 58, 59, 60, 61, 62, 63, 64, 65, 66, 67, 68, 69, 70, 71, 72, 73, 74, 75, 76, 77, 78, 79, 80, 81, 82, 83] (by decide +kernel) (by decide +kernel)
set_option maxRecDepth 20000 in
theorem gX12_inverse_X12_append : GoodIn wsX12_inverse (wsV RX12 255 RX12 yX12_append wsX12_append) := goodIn_app (goodIn_of _ (by decide +kernel)) ggX12_inverse_X12_append
theorem dX12_inverse_0 : decode cX12_inverse 0 = .ok (.iload_n 1, 1) := by decide +kernel
theorem dX12_inverse_1 : decode cX12_inverse 1 = .ok (.invokestatic 102, 3) := by decide +kernel
theorem dX12_inverse_4 : decode cX12_inverse 4 = .ok (.ifCond .eq 10, 3) := by decide +kernel
theorem dX12_inverse_7 : decode cX12_inverse 7 = .ok (.iload_n 2, 1) := by decide +kernel
theorem dX12_inverse_8 : decode cX12_inverse 8 = .ok (.invokestatic 102, 3) := by decide +kernel
theorem dX12_inverse_11 : decode cX12_inverse 11 = .ok (.ifCond .ne 5, 3) := by decide +kernel
theorem dX12_inverse_14 : decode cX12_inverse 14 = .ok (.iconst (-1), 1) := by decide +kernel
theorem dX12_inverse_15 : decode cX12_inverse 15 = .ok (.ireturn, 1) := by decide +kernel
theorem dX12_inverse_16 : decode cX12_inverse 16 = .ok (.aload_n 0, 1) := by decide +kernel
theorem dX12_inverse_17 : decode cX12_inverse 17 = .ok (.invokevirtual 229, 3) := by decide +kernel
theorem dX12_inverse_20 : decode cX12_inverse 20 = .ok (.ifCond .ne 6, 3) := by decide +kernel
theorem dX12_inverse_23 : decode cX12_inverse 23 = .ok (.bipush (-3), 2) := by decide +kernel
theorem dX12_inverse_25 : decode cX12_inverse 25 = .ok (.ireturn, 1) := by decide +kernel
theorem dX12_inverse_26 : decode cX12_inverse 26 = .ok (.aload_n 0, 1) := by decide +kernel
theorem dX12_inverse_27 : decode cX12_inverse 27 = .ok (.iload_n 1, 1) := by decide +kernel
theorem dX12_inverse_28 : decode cX12_inverse 28 = .ok (.bipush 10, 2) := by decide +kernel
theorem dX12_inverse_30 : decode cX12_inverse 30 = .ok (.invokevirtual 106, 3) := by decide +kernel
theorem dX12_inverse_33 : decode cX12_inverse 33 = .ok (.aload_n 0, 1) := by decide +kernel
theorem dX12_inverse_34 : decode cX12_inverse 34 = .ok (.bipush 10, 2) := by decide +kernel
theorem dX12_inverse_36 : decode cX12_inverse 36 = .ok (.invokevirtual 167, 3) := by decide +kernel
theorem dX12_inverse_39 : decode cX12_inverse 39 = .ok (.iconst 0, 1) := by decide +kernel
theorem dX12_inverse_40 : decode cX12_inverse 40 = .ok (.istore_n 3, 1) := by decide +kernel
theorem dX12_inverse_41 : decode cX12_inverse 41 = .ok (.iload_n 3, 1) := by decide +kernel
theorem dX12_inverse_42 : decode cX12_inverse 42 = .ok (.sipush 2000, 3) := by decide +kernel
theorem dX12_inverse_45 : decode cX12_inverse 45 = .ok (.if_icmp .ge 96, 3) := by decide +kernel
theorem dX12_inverse_48 : decode cX12_inverse 48 = .ok (.aload_n 0, 1) := by decide +kernel
theorem dX12_inverse_49 : decode cX12_inverse 49 = .ok (.iload_n 3, 1) := by decide +kernel
theorem dX12_inverse_50 : decode cX12_inverse 50 = .ok (.i2l, 1) := by decide +kernel
theorem dX12_inverse_51 : decode cX12_inverse 51 = .ok (.bipush 9, 2) := by decide +kernel
theorem dX12_inverse_53 : decode cX12_inverse 53 = .ok (.invokevirtual 249, 3) := by decide +kernel
theorem dX12_inverse_56 : decode cX12_inverse 56 = .ok (.ifCond .ne 6, 3) := by decide +kernel
theorem dX12_inverse_59 : decode cX12_inverse 59 = .ok (.bipush (-9), 2) := by decide +kernel
theorem dX12_inverse_61 : decode cX12_inverse 61 = .ok (.ireturn, 1) := by decide +kernel
theorem dX12_inverse_62 : decode cX12_inverse 62 = .ok (.aload_n 0, 1) := by decide +kernel
theorem dX12_inverse_63 : decode cX12_inverse 63 = .ok (.getfield 13, 3) := by decide +kernel
theorem dX12_inverse_66 : decode cX12_inverse 66 = .ok (.bipush 10, 2) := by decide +kernel
theorem dX12_inverse_68 : decode cX12_inverse 68 = .ok (.iaload, 1) := by decide +kernel
theorem dX12_inverse_69 : decode cX12_inverse 69 = .ok (.istore 4, 2) := by decide +kernel
theorem dX12_inverse_71 : decode cX12_inverse 71 = .ok (.iload 4, 2) := by decide +kernel
theorem dX12_inverse_73 : decode cX12_inverse 73 = .ok (.aload_n 0, 1) := by decide +kernel
theorem dX12_inverse_74 : decode cX12_inverse 74 = .ok (.getfield 13, 3) := by decide +kernel
theorem dX12_inverse_77 : decode cX12_inverse 77 = .ok (.bipush 9, 2) := by decide +kernel
theorem dX12_inverse_79 : decode cX12_inverse 79 = .ok (.iaload, 1) := by decide +kernel
theorem dX12_inverse_80 : decode cX12_inverse 80 = .ok (.iadd, 1) := by decide +kernel
theorem dX12_inverse_81 : decode cX12_inverse 81 = .ok (.bipush 60, 2) := by decide +kernel
theorem dX12_inverse_83 : decode cX12_inverse 83 = .ok (.if_icmp .le 6, 3) := by decide +kernel
theorem dX12_inverse_86 : decode cX12_inverse 86 = .ok (.bipush (-4), 2) := by decide +kernel
theorem dX12_inverse_88 : decode cX12_inverse 88 = .ok (.ireturn, 1) := by decide +kernel
theorem dX12_inverse_89 : decode cX12_inverse 89 = .ok (.aload_n 0, 1) := by decide +kernel
theorem dX12_inverse_90 : decode cX12_inverse 90 = .ok (.bipush 10, 2) := by decide +kernel
theorem dX12_inverse_92 : decode cX12_inverse 92 = .ok (.bipush 12, 2) := by decide +kernel
theorem dX12_inverse_94 : decode cX12_inverse 94 = .ok (.invokevirtual 106, 3) := by decide +kernel
theorem dX12_inverse_97 : decode cX12_inverse 97 = .ok (.aload_n 0, 1) := by decide +kernel
theorem dX12_inverse_98 : decode cX12_inverse 98 = .ok (.bipush 12, 2) := by decide +kernel
theorem dX12_inverse_100 : decode cX12_inverse 100 = .ok (.bipush 9, 2) := by decide +kernel
theorem dX12_inverse_102 : decode cX12_inverse 102 = .ok (.invokevirtual 255, 3) := by decide +kernel
theorem dX12_inverse_105 : decode cX12_inverse 105 = .ok (.aload_n 0, 1) := by decide +kernel
theorem dX12_inverse_106 : decode cX12_inverse 106 = .ok (.bipush 12, 2) := by decide +kernel
theorem dX12_inverse_108 : decode cX12_inverse 108 = .ok (.invokevirtual 167, 3) := by decide +kernel
theorem dX12_inverse_111 : decode cX12_inverse 111 = .ok (.aload_n 0, 1) := by decide +kernel
theorem dX12_inverse_112 : decode cX12_inverse 112 = .ok (.getfield 13, 3) := by decide +kernel
theorem dX12_inverse_115 : decode cX12_inverse 115 = .ok (.bipush 12, 2) := by decide +kernel
theorem dX12_inverse_117 : decode cX12_inverse 117 = .ok (.iaload, 1) := by decide +kernel
theorem dX12_inverse_118 : decode cX12_inverse 118 = .ok (.ifCond .ne 17, 3) := by decide +kernel
theorem dX12_inverse_121 : decode cX12_inverse 121 = .ok (.aload_n 0, 1) := by decide +kernel
theorem dX12_inverse_122 : decode cX12_inverse 122 = .ok (.bipush 9, 2) := by decide +kernel
theorem dX12_inverse_124 : decode cX12_inverse 124 = .ok (.iload_n 2, 1) := by decide +kernel
theorem dX12_inverse_125 : decode cX12_inverse 125 = .ok (.invokevirtual 106, 3) := by decide +kernel
theorem dX12_inverse_128 : decode cX12_inverse 128 = .ok (.aload_n 0, 1) := by decide +kernel
theorem dX12_inverse_129 : decode cX12_inverse 129 = .ok (.getfield 13, 3) := by decide +kernel
theorem dX12_inverse_132 : decode cX12_inverse 132 = .ok (.iload_n 2, 1) := by decide +kernel
theorem dX12_inverse_133 : decode cX12_inverse 133 = .ok (.iaload, 1) := by decide +kernel
theorem dX12_inverse_134 : decode cX12_inverse 134 = .ok (.ireturn, 1) := by decide +kernel
theorem dX12_inverse_135 : decode cX12_inverse 135 = .ok (.iinc 3 1, 3) := by decide +kernel
theorem dX12_inverse_138 : decode cX12_inverse 138 = .ok (.goto (-97), 3) := by decide +kernel
theorem dX12_inverse_141 : decode cX12_inverse 141 = .ok (.bipush (-9), 2) := by decide +kernel
theorem dX12_inverse_143 : decode cX12_inverse 143 = .ok (.ireturn, 1) := by decide +kernel
theorem dX12_isLeast_0 : decode cX12_isLeast 0 = .ok (.aload_n 0, 1) := by decide +kernel
theorem dX12_isLeast_1 : decode cX12_isLeast 1 = .ok (.getfield 32, 3) := by decide +kernel
theorem dX12_isLeast_4 : decode cX12_isLeast 4 = .ok (.iload_n 1, 1) := by decide +kernel
theorem dX12_isLeast_5 : decode cX12_isLeast 5 = .ok (.iaload, 1) := by decide +kernel
theorem dX12_isLeast_6 : decode cX12_isLeast 6 = .ok (.iload_n 1, 1) := by decide +kernel
theorem dX12_isLeast_7 : decode cX12_isLeast 7 = .ok (.if_icmp .ne 7, 3) := by decide +kernel
theorem dX12_isLeast_10 : decode cX12_isLeast 10 = .ok (.iconst 1, 1) := by decide +kernel
theorem dX12_isLeast_11 : decode cX12_isLeast 11 = .ok (.goto 4, 3) := by decide +kernel
theorem dX12_isLeast_14 : decode cX12_isLeast 14 = .ok (.iconst 0, 1) := by decide +kernel
theorem dX12_isLeast_15 : decode cX12_isLeast 15 = .ok (.ireturn, 1) := by decide +kernel
theorem dX12_isMachine_0 : decode cX12_isMachine 0 = .ok (.aload_n 0, 1) := by decide +kernel
theorem dX12_isMachine_1 : decode cX12_isMachine 1 = .ok (.getfield 26, 3) := by decide +kernel
theorem dX12_isMachine_4 : decode cX12_isMachine 4 = .ok (.bipush (-9), 2) := by decide +kernel
theorem dX12_isMachine_6 : decode cX12_isMachine 6 = .ok (.if_icmp .eq 14, 3) := by decide +kernel
theorem dX12_isMachine_9 : decode cX12_isMachine 9 = .ok (.aload_n 0, 1) := by decide +kernel
theorem dX12_isMachine_10 : decode cX12_isMachine 10 = .ok (.getfield 215, 3) := by decide +kernel
theorem dX12_isMachine_13 : decode cX12_isMachine 13 = .ok (.ifCond .eq 7, 3) := by decide +kernel
theorem dX12_isMachine_16 : decode cX12_isMachine 16 = .ok (.iconst 1, 1) := by decide +kernel
theorem dX12_isMachine_17 : decode cX12_isMachine 17 = .ok (.goto 4, 3) := by decide +kernel
theorem dX12_isMachine_20 : decode cX12_isMachine 20 = .ok (.iconst 0, 1) := by decide +kernel
theorem dX12_isMachine_21 : decode cX12_isMachine 21 = .ok (.ireturn, 1) := by decide +kernel
theorem dX12_isMade_0 : decode cX12_isMade 0 = .ok (.iconst 0, 1) := by decide +kernel
theorem dX12_isMade_1 : decode cX12_isMade 1 = .ok (.istore_n 1, 1) := by decide +kernel
theorem dX12_isMade_2 : decode cX12_isMade 2 = .ok (.iload_n 1, 1) := by decide +kernel
theorem dX12_isMade_3 : decode cX12_isMade 3 = .ok (.aload_n 0, 1) := by decide +kernel
theorem dX12_isMade_4 : decode cX12_isMade 4 = .ok (.getfield 263, 3) := by decide +kernel
theorem dX12_isMade_7 : decode cX12_isMade 7 = .ok (.if_icmp .ge 90, 3) := by decide +kernel
theorem dX12_isMade_10 : decode cX12_isMade 10 = .ok (.aload_n 0, 1) := by decide +kernel
theorem dX12_isMade_11 : decode cX12_isMade 11 = .ok (.getfield 85, 3) := by decide +kernel
theorem dX12_isMade_14 : decode cX12_isMade 14 = .ok (.iload_n 1, 1) := by decide +kernel
theorem dX12_isMade_15 : decode cX12_isMade 15 = .ok (.iaload, 1) := by decide +kernel
theorem dX12_isMade_16 : decode cX12_isMade 16 = .ok (.aload_n 0, 1) := by decide +kernel
theorem dX12_isMade_17 : decode cX12_isMade 17 = .ok (.getfield 13, 3) := by decide +kernel
theorem dX12_isMade_20 : decode cX12_isMade 20 = .ok (.bipush 9, 2) := by decide +kernel
theorem dX12_isMade_22 : decode cX12_isMade 22 = .ok (.iaload, 1) := by decide +kernel
theorem dX12_isMade_23 : decode cX12_isMade 23 = .ok (.if_icmp .ne 7, 3) := by decide +kernel
theorem dX12_isMade_26 : decode cX12_isMade 26 = .ok (.iconst 1, 1) := by decide +kernel
theorem dX12_isMade_27 : decode cX12_isMade 27 = .ok (.goto 4, 3) := by decide +kernel
theorem dX12_isMade_30 : decode cX12_isMade 30 = .ok (.iconst 0, 1) := by decide +kernel
theorem dX12_isMade_31 : decode cX12_isMade 31 = .ok (.istore_n 2, 1) := by decide +kernel
theorem dX12_isMade_32 : decode cX12_isMade 32 = .ok (.iconst 0, 1) := by decide +kernel
theorem dX12_isMade_33 : decode cX12_isMade 33 = .ok (.istore_n 3, 1) := by decide +kernel
theorem dX12_isMade_34 : decode cX12_isMade 34 = .ok (.iload_n 3, 1) := by decide +kernel
theorem dX12_isMade_35 : decode cX12_isMade 35 = .ok (.aload_n 0, 1) := by decide +kernel
theorem dX12_isMade_36 : decode cX12_isMade 36 = .ok (.getfield 13, 3) := by decide +kernel
theorem dX12_isMade_39 : decode cX12_isMade 39 = .ok (.bipush 9, 2) := by decide +kernel
theorem dX12_isMade_41 : decode cX12_isMade 41 = .ok (.iaload, 1) := by decide +kernel
theorem dX12_isMade_42 : decode cX12_isMade 42 = .ok (.if_icmp .ge 43, 3) := by decide +kernel
theorem dX12_isMade_45 : decode cX12_isMade 45 = .ok (.iload_n 2, 1) := by decide +kernel
theorem dX12_isMade_46 : decode cX12_isMade 46 = .ok (.ifCond .eq 39, 3) := by decide +kernel
theorem dX12_isMade_49 : decode cX12_isMade 49 = .ok (.aload_n 0, 1) := by decide +kernel
theorem dX12_isMade_50 : decode cX12_isMade 50 = .ok (.getfield 88, 3) := by decide +kernel
theorem dX12_isMade_53 : decode cX12_isMade 53 = .ok (.bipush 60, 2) := by decide +kernel
theorem dX12_isMade_55 : decode cX12_isMade 55 = .ok (.iload_n 1, 1) := by decide +kernel
theorem dX12_isMade_56 : decode cX12_isMade 56 = .ok (.imul, 1) := by decide +kernel
theorem dX12_isMade_57 : decode cX12_isMade 57 = .ok (.iload_n 3, 1) := by decide +kernel
theorem dX12_isMade_58 : decode cX12_isMade 58 = .ok (.iadd, 1) := by decide +kernel
theorem dX12_isMade_59 : decode cX12_isMade 59 = .ok (.iaload, 1) := by decide +kernel
theorem dX12_isMade_60 : decode cX12_isMade 60 = .ok (.aload_n 0, 1) := by decide +kernel
theorem dX12_isMade_61 : decode cX12_isMade 61 = .ok (.getfield 17, 3) := by decide +kernel
theorem dX12_isMade_64 : decode cX12_isMade 64 = .ok (.sipush 1152, 3) := by decide +kernel
theorem dX12_isMade_67 : decode cX12_isMade 67 = .ok (.iload_n 3, 1) := by decide +kernel
theorem dX12_isMade_68 : decode cX12_isMade 68 = .ok (.iadd, 1) := by decide +kernel
theorem dX12_isMade_69 : decode cX12_isMade 69 = .ok (.iaload, 1) := by decide +kernel
theorem dX12_isMade_70 : decode cX12_isMade 70 = .ok (.if_icmp .ne 7, 3) := by decide +kernel
theorem dX12_isMade_73 : decode cX12_isMade 73 = .ok (.iconst 1, 1) := by decide +kernel
theorem dX12_isMade_74 : decode cX12_isMade 74 = .ok (.goto 4, 3) := by decide +kernel
theorem dX12_isMade_77 : decode cX12_isMade 77 = .ok (.iconst 0, 1) := by decide +kernel
theorem dX12_isMade_78 : decode cX12_isMade 78 = .ok (.istore_n 2, 1) := by decide +kernel
theorem dX12_isMade_79 : decode cX12_isMade 79 = .ok (.iinc 3 1, 3) := by decide +kernel
theorem dX12_isMade_82 : decode cX12_isMade 82 = .ok (.goto (-48), 3) := by decide +kernel
theorem dX12_isMade_85 : decode cX12_isMade 85 = .ok (.iload_n 2, 1) := by decide +kernel
theorem dX12_isMade_86 : decode cX12_isMade 86 = .ok (.ifCond .eq 5, 3) := by decide +kernel
theorem dX12_isMade_89 : decode cX12_isMade 89 = .ok (.iconst 1, 1) := by decide +kernel
theorem dX12_isMade_90 : decode cX12_isMade 90 = .ok (.ireturn, 1) := by decide +kernel
theorem dX12_isMade_91 : decode cX12_isMade 91 = .ok (.iinc 1 1, 3) := by decide +kernel
theorem dX12_isMade_94 : decode cX12_isMade 94 = .ok (.goto (-92), 3) := by decide +kernel
theorem dX12_isMade_97 : decode cX12_isMade 97 = .ok (.iconst 0, 1) := by decide +kernel
theorem dX12_isMade_98 : decode cX12_isMade 98 = .ok (.ireturn, 1) := by decide +kernel
theorem dX12_isSame_0 : decode cX12_isSame 0 = .ok (.aload_n 0, 1) := by decide +kernel
theorem dX12_isSame_1 : decode cX12_isSame 1 = .ok (.getfield 13, 3) := by decide +kernel
theorem dX12_isSame_4 : decode cX12_isSame 4 = .ok (.iload_n 1, 1) := by decide +kernel
theorem dX12_isSame_5 : decode cX12_isSame 5 = .ok (.iaload, 1) := by decide +kernel
theorem dX12_isSame_6 : decode cX12_isSame 6 = .ok (.aload_n 0, 1) := by decide +kernel
theorem dX12_isSame_7 : decode cX12_isSame 7 = .ok (.getfield 13, 3) := by decide +kernel
theorem dX12_isSame_10 : decode cX12_isSame 10 = .ok (.iload_n 2, 1) := by decide +kernel
theorem dX12_isSame_11 : decode cX12_isSame 11 = .ok (.iaload, 1) := by decide +kernel
theorem dX12_isSame_12 : decode cX12_isSame 12 = .ok (.if_icmp .ne 7, 3) := by decide +kernel
theorem dX12_isSame_15 : decode cX12_isSame 15 = .ok (.iconst 1, 1) := by decide +kernel
theorem dX12_isSame_16 : decode cX12_isSame 16 = .ok (.goto 4, 3) := by decide +kernel
theorem dX12_isSame_19 : decode cX12_isSame 19 = .ok (.iconst 0, 1) := by decide +kernel
theorem dX12_isSame_20 : decode cX12_isSame 20 = .ok (.istore_n 3, 1) := by decide +kernel
theorem dX12_isSame_21 : decode cX12_isSame 21 = .ok (.iconst 0, 1) := by decide +kernel
theorem dX12_isSame_22 : decode cX12_isSame 22 = .ok (.istore 4, 2) := by decide +kernel
theorem dX12_isSame_24 : decode cX12_isSame 24 = .ok (.iload 4, 2) := by decide +kernel
theorem dX12_isSame_26 : decode cX12_isSame 26 = .ok (.aload_n 0, 1) := by decide +kernel
theorem dX12_isSame_27 : decode cX12_isSame 27 = .ok (.getfield 13, 3) := by decide +kernel
theorem dX12_isSame_30 : decode cX12_isSame 30 = .ok (.iload_n 1, 1) := by decide +kernel
theorem dX12_isSame_31 : decode cX12_isSame 31 = .ok (.iaload, 1) := by decide +kernel
theorem dX12_isSame_32 : decode cX12_isSame 32 = .ok (.if_icmp .ge 48, 3) := by decide +kernel
theorem dX12_isSame_35 : decode cX12_isSame 35 = .ok (.iload_n 3, 1) := by decide +kernel
theorem dX12_isSame_36 : decode cX12_isSame 36 = .ok (.ifCond .eq 44, 3) := by decide +kernel
theorem dX12_isSame_39 : decode cX12_isSame 39 = .ok (.aload_n 0, 1) := by decide +kernel
theorem dX12_isSame_40 : decode cX12_isSame 40 = .ok (.getfield 17, 3) := by decide +kernel
theorem dX12_isSame_43 : decode cX12_isSame 43 = .ok (.sipush 128, 3) := by decide +kernel
theorem dX12_isSame_46 : decode cX12_isSame 46 = .ok (.iload_n 1, 1) := by decide +kernel
theorem dX12_isSame_47 : decode cX12_isSame 47 = .ok (.imul, 1) := by decide +kernel
theorem dX12_isSame_48 : decode cX12_isSame 48 = .ok (.iload 4, 2) := by decide +kernel
theorem dX12_isSame_50 : decode cX12_isSame 50 = .ok (.iadd, 1) := by decide +kernel
theorem dX12_isSame_51 : decode cX12_isSame 51 = .ok (.iaload, 1) := by decide +kernel
theorem dX12_isSame_52 : decode cX12_isSame 52 = .ok (.aload_n 0, 1) := by decide +kernel
theorem dX12_isSame_53 : decode cX12_isSame 53 = .ok (.getfield 17, 3) := by decide +kernel
theorem dX12_isSame_56 : decode cX12_isSame 56 = .ok (.sipush 128, 3) := by decide +kernel
theorem dX12_isSame_59 : decode cX12_isSame 59 = .ok (.iload_n 2, 1) := by decide +kernel
theorem dX12_isSame_60 : decode cX12_isSame 60 = .ok (.imul, 1) := by decide +kernel
theorem dX12_isSame_61 : decode cX12_isSame 61 = .ok (.iload 4, 2) := by decide +kernel
theorem dX12_isSame_63 : decode cX12_isSame 63 = .ok (.iadd, 1) := by decide +kernel
theorem dX12_isSame_64 : decode cX12_isSame 64 = .ok (.iaload, 1) := by decide +kernel
theorem dX12_isSame_65 : decode cX12_isSame 65 = .ok (.if_icmp .ne 7, 3) := by decide +kernel
theorem dX12_isSame_68 : decode cX12_isSame 68 = .ok (.iconst 1, 1) := by decide +kernel
theorem dX12_isSame_69 : decode cX12_isSame 69 = .ok (.goto 4, 3) := by decide +kernel
theorem dX12_isSame_72 : decode cX12_isSame 72 = .ok (.iconst 0, 1) := by decide +kernel
theorem dX12_isSame_73 : decode cX12_isSame 73 = .ok (.istore_n 3, 1) := by decide +kernel
theorem dX12_isSame_74 : decode cX12_isSame 74 = .ok (.iinc 4 1, 3) := by decide +kernel
theorem dX12_isSame_77 : decode cX12_isSame 77 = .ok (.goto (-53), 3) := by decide +kernel
theorem dX12_isSame_80 : decode cX12_isSame 80 = .ok (.iload_n 3, 1) := by decide +kernel
theorem dX12_isSame_81 : decode cX12_isSame 81 = .ok (.ireturn, 1) := by decide +kernel
set_option maxRecDepth 20000 in
theorem ggX12_isSlot_X12_in : GoodIn wsX12_isSlot wsX12_in := goodIn_r _ [5] (by decide +kernel) (by decide +kernel)
set_option maxRecDepth 20000 in
theorem gX12_isSlot_X12_in : GoodIn wsX12_isSlot (va_wsS RX12 93 yX12_in wsX12_in) := goodIn_app (goodIn_of _ (by decide +kernel)) ggX12_isSlot_X12_in
theorem dX12_isSlot_0 : decode cX12_isSlot 0 = .ok (.iload_n 0, 1) := by decide +kernel
theorem dX12_isSlot_1 : decode cX12_isSlot 1 = .ok (.i2l, 1) := by decide +kernel
theorem dX12_isSlot_2 : decode cX12_isSlot 2 = .ok (.lconst 0, 1) := by decide +kernel
theorem dX12_isSlot_3 : decode cX12_isSlot 3 = .ok (.ldc2_w 91, 3) := by decide +kernel
theorem dX12_isSlot_6 : decode cX12_isSlot 6 = .ok (.invokestatic 93, 3) := by decide +kernel
theorem dX12_isSlot_9 : decode cX12_isSlot 9 = .ok (.ireturn, 1) := by decide +kernel
set_option maxRecDepth 20000 in
theorem ggX12_join_X12_root : GoodIn wsX12_join wsX12_root := goodIn_r _ [6, 1, 7, 8, 9, 10, 11, 12, 13, 14, 15, 16, 17, 18, 19, 20, 21, 22, 23, 24, 25, 26, 27, 28, 29, 30, 31, 32, 33, 34, 35, 36, 37, 38, 39, 40] (by decide +kernel) (by decide +kernel)
set_option maxRecDepth 20000 in
theorem gX12_join_X12_root : GoodIn wsX12_join (wsV RX12 112 RX12 yX12_root wsX12_root) := goodIn_app (goodIn_of _ (by decide +kernel)) ggX12_join_X12_root
theorem dX12_join_0 : decode cX12_join 0 = .ok (.aload_n 0, 1) := by decide +kernel
theorem dX12_join_1 : decode cX12_join 1 = .ok (.iload_n 1, 1) := by decide +kernel
theorem dX12_join_2 : decode cX12_join 2 = .ok (.invokevirtual 112, 3) := by decide +kernel
theorem dX12_join_5 : decode cX12_join 5 = .ok (.istore_n 3, 1) := by decide +kernel
theorem dX12_join_6 : decode cX12_join 6 = .ok (.aload_n 0, 1) := by decide +kernel
theorem dX12_join_7 : decode cX12_join 7 = .ok (.iload_n 2, 1) := by decide +kernel
theorem dX12_join_8 : decode cX12_join 8 = .ok (.invokevirtual 112, 3) := by decide +kernel
theorem dX12_join_11 : decode cX12_join 11 = .ok (.istore 4, 2) := by decide +kernel
theorem dX12_join_13 : decode cX12_join 13 = .ok (.iload_n 3, 1) := by decide +kernel
theorem dX12_join_14 : decode cX12_join 14 = .ok (.iload 4, 2) := by decide +kernel
theorem dX12_join_16 : decode cX12_join 16 = .ok (.if_icmp .ge 14, 3) := by decide +kernel
theorem dX12_join_19 : decode cX12_join 19 = .ok (.aload_n 0, 1) := by decide +kernel
theorem dX12_join_20 : decode cX12_join 20 = .ok (.getfield 32, 3) := by decide +kernel
theorem dX12_join_23 : decode cX12_join 23 = .ok (.iload 4, 2) := by decide +kernel
theorem dX12_join_25 : decode cX12_join 25 = .ok (.iload_n 3, 1) := by decide +kernel
theorem dX12_join_26 : decode cX12_join 26 = .ok (.iastore, 1) := by decide +kernel
theorem dX12_join_27 : decode cX12_join 27 = .ok (.goto 11, 3) := by decide +kernel
theorem dX12_join_30 : decode cX12_join 30 = .ok (.aload_n 0, 1) := by decide +kernel
theorem dX12_join_31 : decode cX12_join 31 = .ok (.getfield 32, 3) := by decide +kernel
theorem dX12_join_34 : decode cX12_join 34 = .ok (.iload_n 3, 1) := by decide +kernel
theorem dX12_join_35 : decode cX12_join 35 = .ok (.iload 4, 2) := by decide +kernel
theorem dX12_join_37 : decode cX12_join 37 = .ok (.iastore, 1) := by decide +kernel
theorem dX12_join_38 : decode cX12_join 38 = .ok (.return_, 1) := by decide +kernel
set_option maxRecDepth 20000 in
theorem ggX12_joinAll_X12_joinOne : GoodIn wsX12_joinAll wsX12_joinOne := goodIn_r _ [12, 13, 14, 15, 11, 16, 2, 17, 18, 19, 20, 35, 36, 37, 38, 39, 40, 41, 42, 43, 44, 45, 46, 47, 48, 49, 50, 51, 52, 53, 54, 55, 56, 57, 58, 59, 60, 61, 62, 63, 64, 65, 66, 67, 68] rfl (by decide +kernel)
set_option maxRecDepth 20000 in
theorem gX12_joinAll_X12_joinOne : GoodIn wsX12_joinAll (wsV RX12 125 RX12 yX12_joinOne wsX12_joinOne) := goodIn_app (goodIn_of _ (by decide +kernel)) ggX12_joinAll_X12_joinOne
set_option maxRecDepth 20000 in
theorem ggX12_joinAll_X12_powerOf : GoodIn wsX12_joinAll wsX12_powerOf := goodIn_r _ [24, 3, 35, 36, 37, 38, 39, 40, 41, 42, 43, 44, 45, 46, 47, 48, 49, 50, 51, 52, 53, 54, 55, 56, 57, 58, 59, 60, 61, 62, 63, 64, 65, 66, 67, 68] (by decide +kernel) (by decide +kernel)
set_option maxRecDepth 20000 in
theorem gX12_joinAll_X12_powerOf : GoodIn wsX12_joinAll (wsV RX12 129 RX12 yX12_powerOf wsX12_powerOf) := goodIn_app (goodIn_of _ (by decide +kernel)) ggX12_joinAll_X12_powerOf
set_option maxRecDepth 20000 in
theorem ggX12_joinAll_X12_lay : GoodIn wsX12_joinAll wsX12_lay := goodIn_r _ [28, 7, 6, 29, 3, 35, 36, 37, 38, 39, 40, 41, 42, 43, 44, 45, 46, 47, 48, 49, 50, 51, 52, 53, 54, 55, 56, 57, 58, 59, 60, 61, 62, 63, 64, 65, 66, 67, 68] rfl (by decide +kernel)
set_option maxRecDepth 20000 in
theorem gX12_joinAll_X12_lay : GoodIn wsX12_joinAll (wsV RX12 132 RX12 yX12_lay wsX12_lay) := goodIn_app (goodIn_of _ (by decide +kernel)) ggX12_joinAll_X12_lay
set_option maxRecDepth 20000 in
theorem ggX12_joinAll_X12_changed : GoodIn wsX12_joinAll wsX12_changed := goodIn_r _ [33, 5, 7, 29, 34, 3, 6, 35, 36, 37, 38, 39, 40, 41, 42, 43, 44, 45, 46, 47, 48, 49, 50, 51, 52, 53, 54, 55, 56, 57, 58, 59, 60, 61, 62, 63, 64, 65, 66, 67, 68] rfl (by decide +kernel)
set_option maxRecDepth 20000 in
theorem gX12_joinAll_X12_changed : GoodIn wsX12_joinAll (wsV RX12 136 RX12 yX12_changed wsX12_changed) := goodIn_app (goodIn_of _ (by decide +kernel)) ggX12_joinAll_X12_changed
set_option maxRecDepth 20000 in
theorem ggX12_joinAll_X12_join : GoodIn wsX12_joinAll wsX12_join := goodIn_r _ [16, 2, 17, 18, 19, 11, 20, 35, 36, 37, 38, 39, 40, 41, 42, 43, 44, 45, 46, 47, 48, 49, 50, 51, 52, 53, 54, 55, 56, 57, 58, 59, 60, 61, 62, 63, 64, 65, 66, 67, 68] rfl (by decide +kernel)
set_option maxRecDepth 20000 in
theorem gX12_joinAll_X12_join : GoodIn wsX12_joinAll (wsV RX12 116 RX12 yX12_join wsX12_join) := goodIn_app (goodIn_of _ (by decide +kernel)) ggX12_joinAll_X12_join
theorem dX12_joinAll_0 : decode cX12_joinAll 0 = .ok (.iconst 0, 1) := by decide +kernel
theorem dX12_joinAll_1 : decode cX12_joinAll 1 = .ok (.istore_n 2, 1) := by decide +kernel
theorem dX12_joinAll_2 : decode cX12_joinAll 2 = .ok (.iload_n 2, 1) := by decide +kernel
theorem dX12_joinAll_3 : decode cX12_joinAll 3 = .ok (.aload_n 0, 1) := by decide +kernel
theorem dX12_joinAll_4 : decode cX12_joinAll 4 = .ok (.getfield 122, 3) := by decide +kernel
theorem dX12_joinAll_7 : decode cX12_joinAll 7 = .ok (.if_icmp .ge 16, 3) := by decide +kernel
theorem dX12_joinAll_10 : decode cX12_joinAll 10 = .ok (.aload_n 0, 1) := by decide +kernel
theorem dX12_joinAll_11 : decode cX12_joinAll 11 = .ok (.getfield 32, 3) := by decide +kernel
theorem dX12_joinAll_14 : decode cX12_joinAll 14 = .ok (.iload_n 2, 1) := by decide +kernel
theorem dX12_joinAll_15 : decode cX12_joinAll 15 = .ok (.iload_n 2, 1) := by decide +kernel
theorem dX12_joinAll_16 : decode cX12_joinAll 16 = .ok (.iastore, 1) := by decide +kernel
theorem dX12_joinAll_17 : decode cX12_joinAll 17 = .ok (.iinc 2 1, 3) := by decide +kernel
theorem dX12_joinAll_20 : decode cX12_joinAll 20 = .ok (.goto (-18), 3) := by decide +kernel
theorem dX12_joinAll_23 : decode cX12_joinAll 23 = .ok (.aload_n 0, 1) := by decide +kernel
theorem dX12_joinAll_24 : decode cX12_joinAll 24 = .ok (.getfield 7, 3) := by decide +kernel
theorem dX12_joinAll_27 : decode cX12_joinAll 27 = .ok (.iconst 1, 1) := by decide +kernel
theorem dX12_joinAll_28 : decode cX12_joinAll 28 = .ok (.if_icmp .ne 44, 3) := by decide +kernel
theorem dX12_joinAll_31 : decode cX12_joinAll 31 = .ok (.iconst 0, 1) := by decide +kernel
theorem dX12_joinAll_32 : decode cX12_joinAll 32 = .ok (.istore_n 2, 1) := by decide +kernel
theorem dX12_joinAll_33 : decode cX12_joinAll 33 = .ok (.iload_n 2, 1) := by decide +kernel
theorem dX12_joinAll_34 : decode cX12_joinAll 34 = .ok (.aload_n 0, 1) := by decide +kernel
theorem dX12_joinAll_35 : decode cX12_joinAll 35 = .ok (.getfield 99, 3) := by decide +kernel
theorem dX12_joinAll_38 : decode cX12_joinAll 38 = .ok (.if_icmp .ge 33, 3) := by decide +kernel
theorem dX12_joinAll_41 : decode cX12_joinAll 41 = .ok (.aload_n 0, 1) := by decide +kernel
theorem dX12_joinAll_42 : decode cX12_joinAll 42 = .ok (.iload_n 1, 1) := by decide +kernel
theorem dX12_joinAll_43 : decode cX12_joinAll 43 = .ok (.aload_n 0, 1) := by decide +kernel
theorem dX12_joinAll_44 : decode cX12_joinAll 44 = .ok (.getfield 20, 3) := by decide +kernel
theorem dX12_joinAll_47 : decode cX12_joinAll 47 = .ok (.iconst 2, 1) := by decide +kernel
theorem dX12_joinAll_48 : decode cX12_joinAll 48 = .ok (.iload_n 2, 1) := by decide +kernel
theorem dX12_joinAll_49 : decode cX12_joinAll 49 = .ok (.imul, 1) := by decide +kernel
theorem dX12_joinAll_50 : decode cX12_joinAll 50 = .ok (.iaload, 1) := by decide +kernel
theorem dX12_joinAll_51 : decode cX12_joinAll 51 = .ok (.aload_n 0, 1) := by decide +kernel
theorem dX12_joinAll_52 : decode cX12_joinAll 52 = .ok (.getfield 20, 3) := by decide +kernel
theorem dX12_joinAll_55 : decode cX12_joinAll 55 = .ok (.iconst 2, 1) := by decide +kernel
theorem dX12_joinAll_56 : decode cX12_joinAll 56 = .ok (.iload_n 2, 1) := by decide +kernel
theorem dX12_joinAll_57 : decode cX12_joinAll 57 = .ok (.imul, 1) := by decide +kernel
theorem dX12_joinAll_58 : decode cX12_joinAll 58 = .ok (.iconst 1, 1) := by decide +kernel
theorem dX12_joinAll_59 : decode cX12_joinAll 59 = .ok (.iadd, 1) := by decide +kernel
theorem dX12_joinAll_60 : decode cX12_joinAll 60 = .ok (.iaload, 1) := by decide +kernel
theorem dX12_joinAll_61 : decode cX12_joinAll 61 = .ok (.invokevirtual 125, 3) := by decide +kernel
theorem dX12_joinAll_64 : decode cX12_joinAll 64 = .ok (.istore_n 3, 1) := by decide +kernel
theorem dX12_joinAll_65 : decode cX12_joinAll 65 = .ok (.iinc 2 1, 3) := by decide +kernel
theorem dX12_joinAll_68 : decode cX12_joinAll 68 = .ok (.goto (-35), 3) := by decide +kernel
theorem dX12_joinAll_71 : decode cX12_joinAll 71 = .ok (.return_, 1) := by decide +kernel
theorem dX12_joinAll_72 : decode cX12_joinAll 72 = .ok (.iconst 0, 1) := by decide +kernel
theorem dX12_joinAll_73 : decode cX12_joinAll 73 = .ok (.istore_n 2, 1) := by decide +kernel
theorem dX12_joinAll_74 : decode cX12_joinAll 74 = .ok (.iconst 0, 1) := by decide +kernel
theorem dX12_joinAll_75 : decode cX12_joinAll 75 = .ok (.istore_n 3, 1) := by decide +kernel
theorem dX12_joinAll_76 : decode cX12_joinAll 76 = .ok (.iload_n 3, 1) := by decide +kernel
theorem dX12_joinAll_77 : decode cX12_joinAll 77 = .ok (.iload_n 1, 1) := by decide +kernel
theorem dX12_joinAll_78 : decode cX12_joinAll 78 = .ok (.iconst 1, 1) := by decide +kernel
theorem dX12_joinAll_79 : decode cX12_joinAll 79 = .ok (.iadd, 1) := by decide +kernel
theorem dX12_joinAll_80 : decode cX12_joinAll 80 = .ok (.if_icmp .gt 33, 3) := by decide +kernel
theorem dX12_joinAll_83 : decode cX12_joinAll 83 = .ok (.aload_n 0, 1) := by decide +kernel
theorem dX12_joinAll_84 : decode cX12_joinAll 84 = .ok (.getfield 29, 3) := by decide +kernel
theorem dX12_joinAll_87 : decode cX12_joinAll 87 = .ok (.iload_n 3, 1) := by decide +kernel
theorem dX12_joinAll_88 : decode cX12_joinAll 88 = .ok (.iload_n 2, 1) := by decide +kernel
theorem dX12_joinAll_89 : decode cX12_joinAll 89 = .ok (.iastore, 1) := by decide +kernel
theorem dX12_joinAll_90 : decode cX12_joinAll 90 = .ok (.iload_n 3, 1) := by decide +kernel
theorem dX12_joinAll_91 : decode cX12_joinAll 91 = .ok (.iload_n 1, 1) := by decide +kernel
theorem dX12_joinAll_92 : decode cX12_joinAll 92 = .ok (.if_icmp .le 7, 3) := by decide +kernel
theorem dX12_joinAll_95 : decode cX12_joinAll 95 = .ok (.iload_n 2, 1) := by decide +kernel
theorem dX12_joinAll_96 : decode cX12_joinAll 96 = .ok (.goto 10, 3) := by decide +kernel
theorem dX12_joinAll_99 : decode cX12_joinAll 99 = .ok (.iload_n 2, 1) := by decide +kernel
theorem dX12_joinAll_100 : decode cX12_joinAll 100 = .ok (.aload_n 0, 1) := by decide +kernel
theorem dX12_joinAll_101 : decode cX12_joinAll 101 = .ok (.iload_n 3, 1) := by decide +kernel
theorem dX12_joinAll_102 : decode cX12_joinAll 102 = .ok (.invokevirtual 129, 3) := by decide +kernel
theorem dX12_joinAll_105 : decode cX12_joinAll 105 = .ok (.iadd, 1) := by decide +kernel
theorem dX12_joinAll_106 : decode cX12_joinAll 106 = .ok (.istore_n 2, 1) := by decide +kernel
theorem dX12_joinAll_107 : decode cX12_joinAll 107 = .ok (.iinc 3 1, 3) := by decide +kernel
theorem dX12_joinAll_110 : decode cX12_joinAll 110 = .ok (.goto (-34), 3) := by decide +kernel
theorem dX12_joinAll_113 : decode cX12_joinAll 113 = .ok (.aload_n 0, 1) := by decide +kernel
theorem dX12_joinAll_114 : decode cX12_joinAll 114 = .ok (.getfield 29, 3) := by decide +kernel
theorem dX12_joinAll_117 : decode cX12_joinAll 117 = .ok (.iload_n 1, 1) := by decide +kernel
theorem dX12_joinAll_118 : decode cX12_joinAll 118 = .ok (.iconst 1, 1) := by decide +kernel
theorem dX12_joinAll_119 : decode cX12_joinAll 119 = .ok (.iadd, 1) := by decide +kernel
theorem dX12_joinAll_120 : decode cX12_joinAll 120 = .ok (.aload_n 0, 1) := by decide +kernel
theorem dX12_joinAll_121 : decode cX12_joinAll 121 = .ok (.getfield 122, 3) := by decide +kernel
theorem dX12_joinAll_124 : decode cX12_joinAll 124 = .ok (.iastore, 1) := by decide +kernel
theorem dX12_joinAll_125 : decode cX12_joinAll 125 = .ok (.iconst 0, 1) := by decide +kernel
theorem dX12_joinAll_126 : decode cX12_joinAll 126 = .ok (.istore_n 3, 1) := by decide +kernel
theorem dX12_joinAll_127 : decode cX12_joinAll 127 = .ok (.iload_n 3, 1) := by decide +kernel
theorem dX12_joinAll_128 : decode cX12_joinAll 128 = .ok (.aload_n 0, 1) := by decide +kernel
theorem dX12_joinAll_129 : decode cX12_joinAll 129 = .ok (.getfield 122, 3) := by decide +kernel
theorem dX12_joinAll_132 : decode cX12_joinAll 132 = .ok (.if_icmp .ge 85, 3) := by decide +kernel
theorem dX12_joinAll_135 : decode cX12_joinAll 135 = .ok (.aload_n 0, 1) := by decide +kernel
theorem dX12_joinAll_136 : decode cX12_joinAll 136 = .ok (.iload_n 3, 1) := by decide +kernel
theorem dX12_joinAll_137 : decode cX12_joinAll 137 = .ok (.invokevirtual 132, 3) := by decide +kernel
theorem dX12_joinAll_140 : decode cX12_joinAll 140 = .ok (.iconst 0, 1) := by decide +kernel
theorem dX12_joinAll_141 : decode cX12_joinAll 141 = .ok (.istore 4, 2) := by decide +kernel
theorem dX12_joinAll_143 : decode cX12_joinAll 143 = .ok (.iload 4, 2) := by decide +kernel
theorem dX12_joinAll_145 : decode cX12_joinAll 145 = .ok (.aload_n 0, 1) := by decide +kernel
theorem dX12_joinAll_146 : decode cX12_joinAll 146 = .ok (.getfield 99, 3) := by decide +kernel
theorem dX12_joinAll_149 : decode cX12_joinAll 149 = .ok (.if_icmp .ge 62, 3) := by decide +kernel
theorem dX12_joinAll_152 : decode cX12_joinAll 152 = .ok (.iconst 0, 1) := by decide +kernel
theorem dX12_joinAll_153 : decode cX12_joinAll 153 = .ok (.istore 5, 2) := by decide +kernel
theorem dX12_joinAll_155 : decode cX12_joinAll 155 = .ok (.iload 5, 2) := by decide +kernel
theorem dX12_joinAll_157 : decode cX12_joinAll 157 = .ok (.aload_n 0, 1) := by decide +kernel
theorem dX12_joinAll_158 : decode cX12_joinAll 158 = .ok (.getfield 20, 3) := by decide +kernel
theorem dX12_joinAll_161 : decode cX12_joinAll 161 = .ok (.iconst 2, 1) := by decide +kernel
theorem dX12_joinAll_162 : decode cX12_joinAll 162 = .ok (.iload 4, 2) := by decide +kernel
theorem dX12_joinAll_164 : decode cX12_joinAll 164 = .ok (.imul, 1) := by decide +kernel
theorem dX12_joinAll_165 : decode cX12_joinAll 165 = .ok (.iaload, 1) := by decide +kernel
theorem dX12_joinAll_166 : decode cX12_joinAll 166 = .ok (.iadd, 1) := by decide +kernel
theorem dX12_joinAll_167 : decode cX12_joinAll 167 = .ok (.aload_n 0, 1) := by decide +kernel
theorem dX12_joinAll_168 : decode cX12_joinAll 168 = .ok (.getfield 119, 3) := by decide +kernel
theorem dX12_joinAll_171 : decode cX12_joinAll 171 = .ok (.if_icmp .gt 34, 3) := by decide +kernel
theorem dX12_joinAll_174 : decode cX12_joinAll 174 = .ok (.aload_n 0, 1) := by decide +kernel
theorem dX12_joinAll_175 : decode cX12_joinAll 175 = .ok (.iload 4, 2) := by decide +kernel
theorem dX12_joinAll_177 : decode cX12_joinAll 177 = .ok (.iload 5, 2) := by decide +kernel
theorem dX12_joinAll_179 : decode cX12_joinAll 179 = .ok (.iload_n 1, 1) := by decide +kernel
theorem dX12_joinAll_180 : decode cX12_joinAll 180 = .ok (.invokevirtual 136, 3) := by decide +kernel
theorem dX12_joinAll_183 : decode cX12_joinAll 183 = .ok (.istore 6, 2) := by decide +kernel
theorem dX12_joinAll_185 : decode cX12_joinAll 185 = .ok (.iload 6, 2) := by decide +kernel
theorem dX12_joinAll_187 : decode cX12_joinAll 187 = .ok (.bipush (-9), 2) := by decide +kernel
theorem dX12_joinAll_189 : decode cX12_joinAll 189 = .ok (.if_icmp .eq 10, 3) := by decide +kernel
theorem dX12_joinAll_192 : decode cX12_joinAll 192 = .ok (.aload_n 0, 1) := by decide +kernel
theorem dX12_joinAll_193 : decode cX12_joinAll 193 = .ok (.iload_n 3, 1) := by decide +kernel
theorem dX12_joinAll_194 : decode cX12_joinAll 194 = .ok (.iload 6, 2) := by decide +kernel
theorem dX12_joinAll_196 : decode cX12_joinAll 196 = .ok (.invokevirtual 116, 3) := by decide +kernel
theorem dX12_joinAll_199 : decode cX12_joinAll 199 = .ok (.iinc 5 1, 3) := by decide +kernel
theorem dX12_joinAll_202 : decode cX12_joinAll 202 = .ok (.goto (-47), 3) := by decide +kernel
theorem dX12_joinAll_205 : decode cX12_joinAll 205 = .ok (.iinc 4 1, 3) := by decide +kernel
theorem dX12_joinAll_208 : decode cX12_joinAll 208 = .ok (.goto (-65), 3) := by decide +kernel
theorem dX12_joinAll_211 : decode cX12_joinAll 211 = .ok (.iinc 3 1, 3) := by decide +kernel
theorem dX12_joinAll_214 : decode cX12_joinAll 214 = .ok (.goto (-87), 3) := by decide +kernel
theorem dX12_joinAll_217 : decode cX12_joinAll 217 = .ok (.return_, 1) := by decide +kernel
set_option maxRecDepth 20000 in
theorem ggX12_joinOne_X12_join : GoodIn wsX12_joinOne wsX12_join := goodIn_r _ [5, 6, 7, 8, 9, 4, 10, 11, 12, 13, 14, 15, 16, 17, 18, 19, 20, 21, 22, 23, 24, 25, 26, 27, 28, 29, 30, 31, 32, 33, 34, 35, 36, 37, 38, 39, 40, 41, 42, 43, 44] rfl (by decide +kernel)
set_option maxRecDepth 20000 in
theorem gX12_joinOne_X12_join : GoodIn wsX12_joinOne (wsV RX12 116 RX12 yX12_join wsX12_join) := goodIn_app (goodIn_of _ (by decide +kernel)) ggX12_joinOne_X12_join
theorem dX12_joinOne_0 : decode cX12_joinOne 0 = .ok (.iload_n 2, 1) := by decide +kernel
theorem dX12_joinOne_1 : decode cX12_joinOne 1 = .ok (.istore 4, 2) := by decide +kernel
theorem dX12_joinOne_3 : decode cX12_joinOne 3 = .ok (.iload 4, 2) := by decide +kernel
theorem dX12_joinOne_5 : decode cX12_joinOne 5 = .ok (.iload_n 1, 1) := by decide +kernel
theorem dX12_joinOne_6 : decode cX12_joinOne 6 = .ok (.if_icmp .gt 31, 3) := by decide +kernel
theorem dX12_joinOne_9 : decode cX12_joinOne 9 = .ok (.iload 4, 2) := by decide +kernel
theorem dX12_joinOne_11 : decode cX12_joinOne 11 = .ok (.iload_n 2, 1) := by decide +kernel
theorem dX12_joinOne_12 : decode cX12_joinOne 12 = .ok (.isub, 1) := by decide +kernel
theorem dX12_joinOne_13 : decode cX12_joinOne 13 = .ok (.iload_n 3, 1) := by decide +kernel
theorem dX12_joinOne_14 : decode cX12_joinOne 14 = .ok (.iadd, 1) := by decide +kernel
theorem dX12_joinOne_15 : decode cX12_joinOne 15 = .ok (.iload_n 1, 1) := by decide +kernel
theorem dX12_joinOne_16 : decode cX12_joinOne 16 = .ok (.if_icmp .gt 15, 3) := by decide +kernel
theorem dX12_joinOne_19 : decode cX12_joinOne 19 = .ok (.aload_n 0, 1) := by decide +kernel
theorem dX12_joinOne_20 : decode cX12_joinOne 20 = .ok (.iload 4, 2) := by decide +kernel
theorem dX12_joinOne_22 : decode cX12_joinOne 22 = .ok (.iload 4, 2) := by decide +kernel
theorem dX12_joinOne_24 : decode cX12_joinOne 24 = .ok (.iload_n 2, 1) := by decide +kernel
theorem dX12_joinOne_25 : decode cX12_joinOne 25 = .ok (.isub, 1) := by decide +kernel
theorem dX12_joinOne_26 : decode cX12_joinOne 26 = .ok (.iload_n 3, 1) := by decide +kernel
theorem dX12_joinOne_27 : decode cX12_joinOne 27 = .ok (.iadd, 1) := by decide +kernel
theorem dX12_joinOne_28 : decode cX12_joinOne 28 = .ok (.invokevirtual 116, 3) := by decide +kernel
theorem dX12_joinOne_31 : decode cX12_joinOne 31 = .ok (.iinc 4 1, 3) := by decide +kernel
theorem dX12_joinOne_34 : decode cX12_joinOne 34 = .ok (.goto (-31), 3) := by decide +kernel
theorem dX12_joinOne_37 : decode cX12_joinOne 37 = .ok (.iload_n 1, 1) := by decide +kernel
theorem dX12_joinOne_38 : decode cX12_joinOne 38 = .ok (.ireturn, 1) := by decide +kernel
theorem dX12_keepMade_0 : decode cX12_keepMade 0 = .ok (.aload_n 0, 1) := by decide +kernel
theorem dX12_keepMade_1 : decode cX12_keepMade 1 = .ok (.getfield 85, 3) := by decide +kernel
theorem dX12_keepMade_4 : decode cX12_keepMade 4 = .ok (.aload_n 0, 1) := by decide +kernel
theorem dX12_keepMade_5 : decode cX12_keepMade 5 = .ok (.getfield 263, 3) := by decide +kernel
theorem dX12_keepMade_8 : decode cX12_keepMade 8 = .ok (.aload_n 0, 1) := by decide +kernel
theorem dX12_keepMade_9 : decode cX12_keepMade 9 = .ok (.getfield 13, 3) := by decide +kernel
theorem dX12_keepMade_12 : decode cX12_keepMade 12 = .ok (.bipush 9, 2) := by decide +kernel
theorem dX12_keepMade_14 : decode cX12_keepMade 14 = .ok (.iaload, 1) := by decide +kernel
theorem dX12_keepMade_15 : decode cX12_keepMade 15 = .ok (.iastore, 1) := by decide +kernel
theorem dX12_keepMade_16 : decode cX12_keepMade 16 = .ok (.iconst 0, 1) := by decide +kernel
theorem dX12_keepMade_17 : decode cX12_keepMade 17 = .ok (.istore_n 1, 1) := by decide +kernel
theorem dX12_keepMade_18 : decode cX12_keepMade 18 = .ok (.iload_n 1, 1) := by decide +kernel
theorem dX12_keepMade_19 : decode cX12_keepMade 19 = .ok (.aload_n 0, 1) := by decide +kernel
theorem dX12_keepMade_20 : decode cX12_keepMade 20 = .ok (.getfield 13, 3) := by decide +kernel
theorem dX12_keepMade_23 : decode cX12_keepMade 23 = .ok (.bipush 9, 2) := by decide +kernel
theorem dX12_keepMade_25 : decode cX12_keepMade 25 = .ok (.iaload, 1) := by decide +kernel
theorem dX12_keepMade_26 : decode cX12_keepMade 26 = .ok (.if_icmp .ge 33, 3) := by decide +kernel
theorem dX12_keepMade_29 : decode cX12_keepMade 29 = .ok (.aload_n 0, 1) := by decide +kernel
theorem dX12_keepMade_30 : decode cX12_keepMade 30 = .ok (.getfield 88, 3) := by decide +kernel
theorem dX12_keepMade_33 : decode cX12_keepMade 33 = .ok (.bipush 60, 2) := by decide +kernel
theorem dX12_keepMade_35 : decode cX12_keepMade 35 = .ok (.aload_n 0, 1) := by decide +kernel
theorem dX12_keepMade_36 : decode cX12_keepMade 36 = .ok (.getfield 263, 3) := by decide +kernel
theorem dX12_keepMade_39 : decode cX12_keepMade 39 = .ok (.imul, 1) := by decide +kernel
theorem dX12_keepMade_40 : decode cX12_keepMade 40 = .ok (.iload_n 1, 1) := by decide +kernel
theorem dX12_keepMade_41 : decode cX12_keepMade 41 = .ok (.iadd, 1) := by decide +kernel
theorem dX12_keepMade_42 : decode cX12_keepMade 42 = .ok (.aload_n 0, 1) := by decide +kernel
theorem dX12_keepMade_43 : decode cX12_keepMade 43 = .ok (.getfield 17, 3) := by decide +kernel
theorem dX12_keepMade_46 : decode cX12_keepMade 46 = .ok (.sipush 1152, 3) := by decide +kernel
theorem dX12_keepMade_49 : decode cX12_keepMade 49 = .ok (.iload_n 1, 1) := by decide +kernel
theorem dX12_keepMade_50 : decode cX12_keepMade 50 = .ok (.iadd, 1) := by decide +kernel
theorem dX12_keepMade_51 : decode cX12_keepMade 51 = .ok (.iaload, 1) := by decide +kernel
theorem dX12_keepMade_52 : decode cX12_keepMade 52 = .ok (.iastore, 1) := by decide +kernel
theorem dX12_keepMade_53 : decode cX12_keepMade 53 = .ok (.iinc 1 1, 3) := by decide +kernel
theorem dX12_keepMade_56 : decode cX12_keepMade 56 = .ok (.goto (-38), 3) := by decide +kernel
theorem dX12_keepMade_59 : decode cX12_keepMade 59 = .ok (.aload_n 0, 1) := by decide +kernel
theorem dX12_keepMade_60 : decode cX12_keepMade 60 = .ok (.dup, 1) := by decide +kernel
theorem dX12_keepMade_61 : decode cX12_keepMade 61 = .ok (.getfield 263, 3) := by decide +kernel
theorem dX12_keepMade_64 : decode cX12_keepMade 64 = .ok (.iconst 1, 1) := by decide +kernel
theorem dX12_keepMade_65 : decode cX12_keepMade 65 = .ok (.iadd, 1) := by decide +kernel
theorem dX12_keepMade_66 : decode cX12_keepMade 66 = .ok (.putfield 263, 3) := by decide +kernel
theorem dX12_keepMade_69 : decode cX12_keepMade 69 = .ok (.return_, 1) := by decide +kernel
