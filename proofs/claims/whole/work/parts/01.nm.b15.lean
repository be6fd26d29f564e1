set_option maxRecDepth 20000 in
theorem ggX3_numberOf_X3_countBelow : GoodIn wsX3_numberOf wsX3_countBelow := goodIn_r _ [11, 12, 37, 38, 39, 40, 41, 42, 43, 44, 45, 46] (by decide +kernel) (by decide +kernel)
set_option maxRecDepth 20000 in
theorem gX3_numberOf_X3_countBelow : GoodIn wsX3_numberOf (wsV RX3 126 RX3 yX3_countBelow wsX3_countBelow) := goodIn_app (goodIn_of _ (by decide +kernel)) ggX3_numberOf_X3_countBelow
set_option maxRecDepth 20000 in
theorem ggX3_numberOf_X3_countWays : GoodIn wsX3_numberOf wsX3_countWays := goodIn_r _ [16, 17, 18, 19, 20, 21, 10, 22, 23, 24, 25, 26, 27, 28, 29, 30, 37, 38, 39, 40, 41, 42, 43, 44, 45, 46, 47, 48, 49, 50] (by decide +kernel) (by decide +kernel)
set_option maxRecDepth 20000 in
theorem gX3_numberOf_X3_countWays : GoodIn wsX3_numberOf (wsV RX3 111 RX3 yX3_countWays wsX3_countWays) := goodIn_app (goodIn_of _ (by decide +kernel)) ggX3_numberOf_X3_countWays
set_option maxRecDepth 20000 in
theorem ggX3_numberOf_X3_waysBy : GoodIn wsX3_numberOf wsX3_waysBy := goodIn_r _ [34, 18, 26, 27, 28, 10, 29, 23, 24, 17, 30, 37, 38, 39, 40, 41, 42, 43, 44, 45, 46, 47, 48, 49, 50] (by decide +kernel) (by decide +kernel)
set_option maxRecDepth 20000 in
theorem gX3_numberOf_X3_waysBy : GoodIn wsX3_numberOf (wsV RX3 114 RX3 yX3_waysBy wsX3_waysBy) := goodIn_app (goodIn_of _ (by decide +kernel)) ggX3_numberOf_X3_waysBy
set_option maxRecDepth 20000 in
theorem ggX3_numberOf_X3_step : GoodIn wsX3_numberOf wsX3_step := goodIn_r _ [29, 23, 24, 17, 30, 37, 38, 39, 40, 41, 42, 43, 44, 45, 46, 47, 48, 49, 50] (by decide +kernel) (by decide +kernel)
set_option maxRecDepth 20000 in
theorem gX3_numberOf_X3_step : GoodIn wsX3_numberOf (wsV RX3 105 RX3 yX3_step wsX3_step) := goodIn_app (goodIn_of _ (by decide +kernel)) ggX3_numberOf_X3_step
theorem dX3_numberOf_0 : decode cX3_numberOf 0 = .ok (.aload_n 0, 1) := by decide +kernel
theorem dX3_numberOf_1 : decode cX3_numberOf 1 = .ok (.aload_n 1, 1) := by decide +kernel
theorem dX3_numberOf_2 : decode cX3_numberOf 2 = .ok (.getfield 79, 3) := by decide +kernel
theorem dX3_numberOf_5 : decode cX3_numberOf 5 = .ok (.invokevirtual 126, 3) := by decide +kernel
theorem dX3_numberOf_8 : decode cX3_numberOf 8 = .ok (.lstore_n 2, 1) := by decide +kernel
theorem dX3_numberOf_9 : decode cX3_numberOf 9 = .ok (.iconst 0, 1) := by decide +kernel
theorem dX3_numberOf_10 : decode cX3_numberOf 10 = .ok (.istore 4, 2) := by decide +kernel
theorem dX3_numberOf_12 : decode cX3_numberOf 12 = .ok (.iconst 0, 1) := by decide +kernel
theorem dX3_numberOf_13 : decode cX3_numberOf 13 = .ok (.istore 5, 2) := by decide +kernel
theorem dX3_numberOf_15 : decode cX3_numberOf 15 = .ok (.iload 5, 2) := by decide +kernel
theorem dX3_numberOf_17 : decode cX3_numberOf 17 = .ok (.aload_n 1, 1) := by decide +kernel
theorem dX3_numberOf_18 : decode cX3_numberOf 18 = .ok (.getfield 79, 3) := by decide +kernel
theorem dX3_numberOf_21 : decode cX3_numberOf 21 = .ok (.if_icmp .ge 73, 3) := by decide +kernel
theorem dX3_numberOf_24 : decode cX3_numberOf 24 = .ok (.aload_n 0, 1) := by decide +kernel
theorem dX3_numberOf_25 : decode cX3_numberOf 25 = .ok (.aload_n 1, 1) := by decide +kernel
theorem dX3_numberOf_26 : decode cX3_numberOf 26 = .ok (.getfield 79, 3) := by decide +kernel
theorem dX3_numberOf_29 : decode cX3_numberOf 29 = .ok (.iconst 1, 1) := by decide +kernel
theorem dX3_numberOf_30 : decode cX3_numberOf 30 = .ok (.isub, 1) := by decide +kernel
theorem dX3_numberOf_31 : decode cX3_numberOf 31 = .ok (.iload 5, 2) := by decide +kernel
theorem dX3_numberOf_33 : decode cX3_numberOf 33 = .ok (.isub, 1) := by decide +kernel
theorem dX3_numberOf_34 : decode cX3_numberOf 34 = .ok (.invokevirtual 111, 3) := by decide +kernel
theorem dX3_numberOf_37 : decode cX3_numberOf 37 = .ok (.iconst 0, 1) := by decide +kernel
theorem dX3_numberOf_38 : decode cX3_numberOf 38 = .ok (.istore 6, 2) := by decide +kernel
theorem dX3_numberOf_40 : decode cX3_numberOf 40 = .ok (.iload 6, 2) := by decide +kernel
theorem dX3_numberOf_42 : decode cX3_numberOf 42 = .ok (.aload_n 1, 1) := by decide +kernel
theorem dX3_numberOf_43 : decode cX3_numberOf 43 = .ok (.getfield 84, 3) := by decide +kernel
theorem dX3_numberOf_46 : decode cX3_numberOf 46 = .ok (.iload 5, 2) := by decide +kernel
theorem dX3_numberOf_48 : decode cX3_numberOf 48 = .ok (.iaload, 1) := by decide +kernel
theorem dX3_numberOf_49 : decode cX3_numberOf 49 = .ok (.if_icmp .ge 20, 3) := by decide +kernel
theorem dX3_numberOf_52 : decode cX3_numberOf 52 = .ok (.lload_n 2, 1) := by decide +kernel
theorem dX3_numberOf_53 : decode cX3_numberOf 53 = .ok (.aload_n 0, 1) := by decide +kernel
theorem dX3_numberOf_54 : decode cX3_numberOf 54 = .ok (.iload 4, 2) := by decide +kernel
theorem dX3_numberOf_56 : decode cX3_numberOf 56 = .ok (.iload 6, 2) := by decide +kernel
theorem dX3_numberOf_58 : decode cX3_numberOf 58 = .ok (.invokevirtual 114, 3) := by decide +kernel
theorem dX3_numberOf_61 : decode cX3_numberOf 61 = .ok (.ladd, 1) := by decide +kernel
theorem dX3_numberOf_62 : decode cX3_numberOf 62 = .ok (.lstore_n 2, 1) := by decide +kernel
theorem dX3_numberOf_63 : decode cX3_numberOf 63 = .ok (.iinc 6 1, 3) := by decide +kernel
theorem dX3_numberOf_66 : decode cX3_numberOf 66 = .ok (.goto (-26), 3) := by decide +kernel
theorem dX3_numberOf_69 : decode cX3_numberOf 69 = .ok (.aload_n 0, 1) := by decide +kernel
theorem dX3_numberOf_70 : decode cX3_numberOf 70 = .ok (.iload 4, 2) := by decide +kernel
theorem dX3_numberOf_72 : decode cX3_numberOf 72 = .ok (.aload_n 1, 1) := by decide +kernel
theorem dX3_numberOf_73 : decode cX3_numberOf 73 = .ok (.getfield 84, 3) := by decide +kernel
theorem dX3_numberOf_76 : decode cX3_numberOf 76 = .ok (.iload 5, 2) := by decide +kernel
theorem dX3_numberOf_78 : decode cX3_numberOf 78 = .ok (.iaload, 1) := by decide +kernel
theorem dX3_numberOf_79 : decode cX3_numberOf 79 = .ok (.invokevirtual 105, 3) := by decide +kernel
theorem dX3_numberOf_82 : decode cX3_numberOf 82 = .ok (.iconst 0, 1) := by decide +kernel
theorem dX3_numberOf_83 : decode cX3_numberOf 83 = .ok (.invokestatic 121, 3) := by decide +kernel
theorem dX3_numberOf_86 : decode cX3_numberOf 86 = .ok (.istore 4, 2) := by decide +kernel
theorem dX3_numberOf_88 : decode cX3_numberOf 88 = .ok (.iinc 5 1, 3) := by decide +kernel
theorem dX3_numberOf_91 : decode cX3_numberOf 91 = .ok (.goto (-76), 3) := by decide +kernel
theorem dX3_numberOf_94 : decode cX3_numberOf 94 = .ok (.lload_n 2, 1) := by decide +kernel
theorem dX3_numberOf_95 : decode cX3_numberOf 95 = .ok (.lreturn, 1) := by decide +kernel
theorem dX3_read_0 : decode cX3_read 0 = .ok (.iload_n 3, 1) := by decide +kernel
theorem dX3_read_1 : decode cX3_read 1 = .ok (.ifCond .lt 20, 3) := by decide +kernel
theorem dX3_read_4 : decode cX3_read 4 = .ok (.iload_n 3, 1) := by decide +kernel
theorem dX3_read_5 : decode cX3_read 5 = .ok (.aload_n 1, 1) := by decide +kernel
theorem dX3_read_6 : decode cX3_read 6 = .ok (.getfield 79, 3) := by decide +kernel
theorem dX3_read_9 : decode cX3_read 9 = .ok (.if_icmp .gt 12, 3) := by decide +kernel
theorem dX3_read_12 : decode cX3_read 12 = .ok (.aload_n 1, 1) := by decide +kernel
theorem dX3_read_13 : decode cX3_read 13 = .ok (.getfield 79, 3) := by decide +kernel
theorem dX3_read_16 : decode cX3_read 16 = .ok (.aload_n 2, 1) := by decide +kernel
theorem dX3_read_17 : decode cX3_read 17 = .ok (.arraylength, 1) := by decide +kernel
theorem dX3_read_18 : decode cX3_read 18 = .ok (.if_icmp .lt 5, 3) := by decide +kernel
theorem dX3_read_21 : decode cX3_read 21 = .ok (.iconst (-1), 1) := by decide +kernel
theorem dX3_read_22 : decode cX3_read 22 = .ok (.ireturn, 1) := by decide +kernel
theorem dX3_read_23 : decode cX3_read 23 = .ok (.aload_n 2, 1) := by decide +kernel
theorem dX3_read_24 : decode cX3_read 24 = .ok (.iload_n 3, 1) := by decide +kernel
theorem dX3_read_25 : decode cX3_read 25 = .ok (.iaload, 1) := by decide +kernel
theorem dX3_read_26 : decode cX3_read 26 = .ok (.istore 5, 2) := by decide +kernel
theorem dX3_read_28 : decode cX3_read 28 = .ok (.iload_n 3, 1) := by decide +kernel
theorem dX3_read_29 : decode cX3_read 29 = .ok (.istore 6, 2) := by decide +kernel
theorem dX3_read_31 : decode cX3_read 31 = .ok (.iload 6, 2) := by decide +kernel
theorem dX3_read_33 : decode cX3_read 33 = .ok (.aload_n 1, 1) := by decide +kernel
theorem dX3_read_34 : decode cX3_read 34 = .ok (.getfield 79, 3) := by decide +kernel
theorem dX3_read_37 : decode cX3_read 37 = .ok (.if_icmp .ge 99, 3) := by decide +kernel
theorem dX3_read_40 : decode cX3_read 40 = .ok (.iload 5, 2) := by decide +kernel
theorem dX3_read_42 : decode cX3_read 42 = .ok (.aload_n 0, 1) := by decide +kernel
theorem dX3_read_43 : decode cX3_read 43 = .ok (.getfield 9, 3) := by decide +kernel
theorem dX3_read_46 : decode cX3_read 46 = .ok (.getfield 40, 3) := by decide +kernel
theorem dX3_read_49 : decode cX3_read 49 = .ok (.imul, 1) := by decide +kernel
theorem dX3_read_50 : decode cX3_read 50 = .ok (.aload_n 1, 1) := by decide +kernel
theorem dX3_read_51 : decode cX3_read 51 = .ok (.getfield 84, 3) := by decide +kernel
theorem dX3_read_54 : decode cX3_read 54 = .ok (.iload 6, 2) := by decide +kernel
theorem dX3_read_56 : decode cX3_read 56 = .ok (.iaload, 1) := by decide +kernel
theorem dX3_read_57 : decode cX3_read 57 = .ok (.iadd, 1) := by decide +kernel
theorem dX3_read_58 : decode cX3_read 58 = .ok (.istore 7, 2) := by decide +kernel
theorem dX3_read_60 : decode cX3_read 60 = .ok (.iload 7, 2) := by decide +kernel
theorem dX3_read_62 : decode cX3_read 62 = .ok (.ifCond .lt 21, 3) := by decide +kernel
theorem dX3_read_65 : decode cX3_read 65 = .ok (.iload 7, 2) := by decide +kernel
theorem dX3_read_67 : decode cX3_read 67 = .ok (.sipush 640, 3) := by decide +kernel
theorem dX3_read_70 : decode cX3_read 70 = .ok (.if_icmp .ge 13, 3) := by decide +kernel
theorem dX3_read_73 : decode cX3_read 73 = .ok (.aload_n 0, 1) := by decide +kernel
theorem dX3_read_74 : decode cX3_read 74 = .ok (.getfield 23, 3) := by decide +kernel
theorem dX3_read_77 : decode cX3_read 77 = .ok (.iload 7, 2) := by decide +kernel
theorem dX3_read_79 : decode cX3_read 79 = .ok (.iaload, 1) := by decide +kernel
theorem dX3_read_80 : decode cX3_read 80 = .ok (.goto 4, 3) := by decide +kernel
theorem dX3_read_83 : decode cX3_read 83 = .ok (.iconst 0, 1) := by decide +kernel
theorem dX3_read_84 : decode cX3_read 84 = .ok (.istore 5, 2) := by decide +kernel
theorem dX3_read_86 : decode cX3_read 86 = .ok (.iload 5, 2) := by decide +kernel
theorem dX3_read_88 : decode cX3_read 88 = .ok (.ifCond .ge 14, 3) := by decide +kernel
theorem dX3_read_91 : decode cX3_read 91 = .ok (.aload_n 0, 1) := by decide +kernel
theorem dX3_read_92 : decode cX3_read 92 = .ok (.iconst (-1), 1) := by decide +kernel
theorem dX3_read_93 : decode cX3_read 93 = .ok (.iload 5, 2) := by decide +kernel
theorem dX3_read_95 : decode cX3_read 95 = .ok (.isub, 1) := by decide +kernel
theorem dX3_read_96 : decode cX3_read 96 = .ok (.putfield 87, 3) := by decide +kernel
theorem dX3_read_99 : decode cX3_read 99 = .ok (.iload 6, 2) := by decide +kernel
theorem dX3_read_101 : decode cX3_read 101 = .ok (.ireturn, 1) := by decide +kernel
theorem dX3_read_102 : decode cX3_read 102 = .ok (.iload 6, 2) := by decide +kernel
theorem dX3_read_104 : decode cX3_read 104 = .ok (.iload 4, 2) := by decide +kernel
theorem dX3_read_106 : decode cX3_read 106 = .ok (.if_icmp .lt 16, 3) := by decide +kernel
theorem dX3_read_109 : decode cX3_read 109 = .ok (.aload_n 2, 1) := by decide +kernel
theorem dX3_read_110 : decode cX3_read 110 = .ok (.iload 6, 2) := by decide +kernel
theorem dX3_read_112 : decode cX3_read 112 = .ok (.iconst 1, 1) := by decide +kernel
theorem dX3_read_113 : decode cX3_read 113 = .ok (.iadd, 1) := by decide +kernel
theorem dX3_read_114 : decode cX3_read 114 = .ok (.iaload, 1) := by decide +kernel
theorem dX3_read_115 : decode cX3_read 115 = .ok (.iload 5, 2) := by decide +kernel
theorem dX3_read_117 : decode cX3_read 117 = .ok (.if_icmp .ne 5, 3) := by decide +kernel
theorem dX3_read_120 : decode cX3_read 120 = .ok (.iconst (-1), 1) := by decide +kernel
theorem dX3_read_121 : decode cX3_read 121 = .ok (.ireturn, 1) := by decide +kernel
theorem dX3_read_122 : decode cX3_read 122 = .ok (.aload_n 2, 1) := by decide +kernel
theorem dX3_read_123 : decode cX3_read 123 = .ok (.iload 6, 2) := by decide +kernel
theorem dX3_read_125 : decode cX3_read 125 = .ok (.iconst 1, 1) := by decide +kernel
theorem dX3_read_126 : decode cX3_read 126 = .ok (.iadd, 1) := by decide +kernel
theorem dX3_read_127 : decode cX3_read 127 = .ok (.iload 5, 2) := by decide +kernel
theorem dX3_read_129 : decode cX3_read 129 = .ok (.iastore, 1) := by decide +kernel
theorem dX3_read_130 : decode cX3_read 130 = .ok (.iinc 6 1, 3) := by decide +kernel
theorem dX3_read_133 : decode cX3_read 133 = .ok (.goto (-102), 3) := by decide +kernel
theorem dX3_read_136 : decode cX3_read 136 = .ok (.iconst (-1), 1) := by decide +kernel
theorem dX3_read_137 : decode cX3_read 137 = .ok (.ireturn, 1) := by decide +kernel
theorem dX3_step_0 : decode cX3_step 0 = .ok (.iload_n 1, 1) := by decide +kernel
theorem dX3_step_1 : decode cX3_step 1 = .ok (.aload_n 0, 1) := by decide +kernel
theorem dX3_step_2 : decode cX3_step 2 = .ok (.getfield 9, 3) := by decide +kernel
theorem dX3_step_5 : decode cX3_step 5 = .ok (.getfield 40, 3) := by decide +kernel
theorem dX3_step_8 : decode cX3_step 8 = .ok (.imul, 1) := by decide +kernel
theorem dX3_step_9 : decode cX3_step 9 = .ok (.iload_n 2, 1) := by decide +kernel
theorem dX3_step_10 : decode cX3_step 10 = .ok (.iadd, 1) := by decide +kernel
theorem dX3_step_11 : decode cX3_step 11 = .ok (.istore_n 3, 1) := by decide +kernel
theorem dX3_step_12 : decode cX3_step 12 = .ok (.iload_n 1, 1) := by decide +kernel
theorem dX3_step_13 : decode cX3_step 13 = .ok (.ifCond .lt 31, 3) := by decide +kernel
theorem dX3_step_16 : decode cX3_step 16 = .ok (.iload_n 1, 1) := by decide +kernel
theorem dX3_step_17 : decode cX3_step 17 = .ok (.aload_n 0, 1) := by decide +kernel
theorem dX3_step_18 : decode cX3_step 18 = .ok (.getfield 36, 3) := by decide +kernel
theorem dX3_step_21 : decode cX3_step 21 = .ok (.if_icmp .ge 23, 3) := by decide +kernel
theorem dX3_step_24 : decode cX3_step 24 = .ok (.iload_n 3, 1) := by decide +kernel
theorem dX3_step_25 : decode cX3_step 25 = .ok (.ifCond .lt 19, 3) := by decide +kernel
theorem dX3_step_28 : decode cX3_step 28 = .ok (.iload_n 3, 1) := by decide +kernel
theorem dX3_step_29 : decode cX3_step 29 = .ok (.sipush 640, 3) := by decide +kernel
theorem dX3_step_32 : decode cX3_step 32 = .ok (.if_icmp .ge 12, 3) := by decide +kernel
theorem dX3_step_35 : decode cX3_step 35 = .ok (.aload_n 0, 1) := by decide +kernel
theorem dX3_step_36 : decode cX3_step 36 = .ok (.getfield 23, 3) := by decide +kernel
theorem dX3_step_39 : decode cX3_step 39 = .ok (.iload_n 3, 1) := by decide +kernel
theorem dX3_step_40 : decode cX3_step 40 = .ok (.iaload, 1) := by decide +kernel
theorem dX3_step_41 : decode cX3_step 41 = .ok (.goto 4, 3) := by decide +kernel
theorem dX3_step_44 : decode cX3_step 44 = .ok (.iconst 0, 1) := by decide +kernel
theorem dX3_step_45 : decode cX3_step 45 = .ok (.ireturn, 1) := by decide +kernel
set_option maxRecDepth 20000 in
theorem ggX3_tally_X3_isEndless : GoodIn wsX3_tally wsX3_isEndless := goodIn_r _ [9, 2, 3, 10, 11, 12, 8, 13, 14, 15, 16, 17, 18, 19, 20, 26, 27, 28, 29, 30, 31, 32, 33, 34, 35, 36, 37, 38, 39] (by decide +kernel) (by decide +kernel)
set_option maxRecDepth 20000 in
theorem gX3_tally_X3_isEndless : GoodIn wsX3_tally (wsV RX3 90 RX3 yX3_isEndless wsX3_isEndless) := goodIn_app (goodIn_of _ (by decide +kernel)) ggX3_tally_X3_isEndless
set_option maxRecDepth 20000 in
theorem ggX3_tally_X3_lengthen : GoodIn wsX3_tally wsX3_lengthen := goodIn_r _ [24, 2, 14, 15, 3, 25, 16, 17, 18, 8, 19, 20, 26, 27, 28, 29, 30, 31, 32, 33, 34, 35, 36, 37, 38, 39] (by decide +kernel) (by decide +kernel)
set_option maxRecDepth 20000 in
theorem gX3_tally_X3_lengthen : GoodIn wsX3_tally (wsV RX3 98 RX3 yX3_lengthen wsX3_lengthen) := goodIn_app (goodIn_of _ (by decide +kernel)) ggX3_tally_X3_lengthen
theorem dX3_tally_0 : decode cX3_tally 0 = .ok (.aload_n 0, 1) := by decide +kernel
theorem dX3_tally_1 : decode cX3_tally 1 = .ok (.aload_n 0, 1) := by decide +kernel
theorem dX3_tally_2 : decode cX3_tally 2 = .ok (.invokevirtual 90, 3) := by decide +kernel
theorem dX3_tally_5 : decode cX3_tally 5 = .ok (.putfield 94, 3) := by decide +kernel
theorem dX3_tally_8 : decode cX3_tally 8 = .ok (.iconst 0, 1) := by decide +kernel
theorem dX3_tally_9 : decode cX3_tally 9 = .ok (.istore_n 1, 1) := by decide +kernel
theorem dX3_tally_10 : decode cX3_tally 10 = .ok (.iload_n 1, 1) := by decide +kernel
theorem dX3_tally_11 : decode cX3_tally 11 = .ok (.aload_n 0, 1) := by decide +kernel
theorem dX3_tally_12 : decode cX3_tally 12 = .ok (.getfield 36, 3) := by decide +kernel
theorem dX3_tally_15 : decode cX3_tally 15 = .ok (.if_icmp .ge 16, 3) := by decide +kernel
theorem dX3_tally_18 : decode cX3_tally 18 = .ok (.aload_n 0, 1) := by decide +kernel
theorem dX3_tally_19 : decode cX3_tally 19 = .ok (.getfield 26, 3) := by decide +kernel
theorem dX3_tally_22 : decode cX3_tally 22 = .ok (.iload_n 1, 1) := by decide +kernel
theorem dX3_tally_23 : decode cX3_tally 23 = .ok (.lconst 1, 1) := by decide +kernel
theorem dX3_tally_24 : decode cX3_tally 24 = .ok (.lastore, 1) := by decide +kernel
theorem dX3_tally_25 : decode cX3_tally 25 = .ok (.iinc 1 1, 3) := by decide +kernel
theorem dX3_tally_28 : decode cX3_tally 28 = .ok (.goto (-18), 3) := by decide +kernel
theorem dX3_tally_31 : decode cX3_tally 31 = .ok (.iconst 0, 1) := by decide +kernel
theorem dX3_tally_32 : decode cX3_tally 32 = .ok (.istore_n 1, 1) := by decide +kernel
theorem dX3_tally_33 : decode cX3_tally 33 = .ok (.iload_n 1, 1) := by decide +kernel
theorem dX3_tally_34 : decode cX3_tally 34 = .ok (.bipush 31, 2) := by decide +kernel
theorem dX3_tally_36 : decode cX3_tally 36 = .ok (.if_icmp .gt 25, 3) := by decide +kernel
theorem dX3_tally_39 : decode cX3_tally 39 = .ok (.aload_n 0, 1) := by decide +kernel
theorem dX3_tally_40 : decode cX3_tally 40 = .ok (.getfield 33, 3) := by decide +kernel
theorem dX3_tally_43 : decode cX3_tally 43 = .ok (.iload_n 1, 1) := by decide +kernel
theorem dX3_tally_44 : decode cX3_tally 44 = .ok (.aload_n 0, 1) := by decide +kernel
theorem dX3_tally_45 : decode cX3_tally 45 = .ok (.getfield 26, 3) := by decide +kernel
theorem dX3_tally_48 : decode cX3_tally 48 = .ok (.iconst 0, 1) := by decide +kernel
theorem dX3_tally_49 : decode cX3_tally 49 = .ok (.laload, 1) := by decide +kernel
theorem dX3_tally_50 : decode cX3_tally 50 = .ok (.lastore, 1) := by decide +kernel
theorem dX3_tally_51 : decode cX3_tally 51 = .ok (.aload_n 0, 1) := by decide +kernel
theorem dX3_tally_52 : decode cX3_tally 52 = .ok (.invokevirtual 98, 3) := by decide +kernel
theorem dX3_tally_55 : decode cX3_tally 55 = .ok (.iinc 1 1, 3) := by decide +kernel
theorem dX3_tally_58 : decode cX3_tally 58 = .ok (.goto (-25), 3) := by decide +kernel
theorem dX3_tally_61 : decode cX3_tally 61 = .ok (.return_, 1) := by decide +kernel
set_option maxRecDepth 20000 in
theorem ggX3_waysBy_X3_step : GoodIn wsX3_waysBy wsX3_step := goodIn_r _ [6, 7, 8, 9, 10, 11, 12, 13, 14, 15, 16, 17, 18, 19, 20, 21, 22, 23, 24] (by decide +kernel) (by decide +kernel)
set_option maxRecDepth 20000 in
theorem gX3_waysBy_X3_step : GoodIn wsX3_waysBy (wsV RX3 105 RX3 yX3_step wsX3_step) := goodIn_app (goodIn_of _ (by decide +kernel)) ggX3_waysBy_X3_step
theorem dX3_waysBy_0 : decode cX3_waysBy 0 = .ok (.aload_n 0, 1) := by decide +kernel
theorem dX3_waysBy_1 : decode cX3_waysBy 1 = .ok (.iload_n 1, 1) := by decide +kernel
theorem dX3_waysBy_2 : decode cX3_waysBy 2 = .ok (.iload_n 2, 1) := by decide +kernel
theorem dX3_waysBy_3 : decode cX3_waysBy 3 = .ok (.invokevirtual 105, 3) := by decide +kernel
theorem dX3_waysBy_6 : decode cX3_waysBy 6 = .ok (.istore_n 3, 1) := by decide +kernel
theorem dX3_waysBy_7 : decode cX3_waysBy 7 = .ok (.iload_n 3, 1) := by decide +kernel
theorem dX3_waysBy_8 : decode cX3_waysBy 8 = .ok (.ifCond .lt 12, 3) := by decide +kernel
theorem dX3_waysBy_11 : decode cX3_waysBy 11 = .ok (.aload_n 0, 1) := by decide +kernel
theorem dX3_waysBy_12 : decode cX3_waysBy 12 = .ok (.getfield 26, 3) := by decide +kernel
theorem dX3_waysBy_15 : decode cX3_waysBy 15 = .ok (.iload_n 3, 1) := by decide +kernel
theorem dX3_waysBy_16 : decode cX3_waysBy 16 = .ok (.laload, 1) := by decide +kernel
theorem dX3_waysBy_17 : decode cX3_waysBy 17 = .ok (.goto 4, 3) := by decide +kernel
theorem dX3_waysBy_20 : decode cX3_waysBy 20 = .ok (.lconst 0, 1) := by decide +kernel
theorem dX3_waysBy_21 : decode cX3_waysBy 21 = .ok (.lreturn, 1) := by decide +kernel
set_option maxRecDepth 20000 in
theorem ggX3_writeNumber_X10_wipe : GoodIn wsX3_writeNumber wsX10_wipe := goodIn_r _ [12, 13, 54, 55] (by decide +kernel) (by decide +kernel)
set_option maxRecDepth 20000 in
theorem gX3_writeNumber_X10_wipe : GoodIn wsX3_writeNumber (wsV RX3 108 RX10 yX10_wipe wsX10_wipe) := goodIn_app (goodIn_of _ (by decide +kernel)) ggX3_writeNumber_X10_wipe
set_option maxRecDepth 20000 in
theorem ggX3_writeNumber_X3_countWays : GoodIn wsX3_writeNumber wsX3_countWays := goodIn_r _ [18, 19, 20, 21, 22, 23, 17, 24, 2, 3, 25, 26, 27, 28, 29, 30, 40, 41, 42, 43, 44, 45, 46, 47, 48, 49, 50, 51, 52, 53] (by decide +kernel) (by decide +kernel)
set_option maxRecDepth 20000 in
theorem gX3_writeNumber_X3_countWays : GoodIn wsX3_writeNumber (wsV RX3 111 RX3 yX3_countWays wsX3_countWays) := goodIn_app (goodIn_of _ (by decide +kernel)) ggX3_writeNumber_X3_countWays
set_option maxRecDepth 20000 in
theorem ggX3_writeNumber_X3_waysBy : GoodIn wsX3_writeNumber wsX3_waysBy := goodIn_r _ [34, 20, 26, 27, 28, 17, 29, 2, 3, 19, 30, 40, 41, 42, 43, 44, 45, 46, 47, 48, 49, 50, 51, 52, 53] (by decide +kernel) (by decide +kernel)
set_option maxRecDepth 20000 in
theorem gX3_writeNumber_X3_waysBy : GoodIn wsX3_writeNumber (wsV RX3 114 RX3 yX3_waysBy wsX3_waysBy) := goodIn_app (goodIn_of _ (by decide +kernel)) ggX3_writeNumber_X3_waysBy
set_option maxRecDepth 20000 in
theorem ggX3_writeNumber_X10_push : GoodIn wsX3_writeNumber wsX10_push := goodIn_r _ [38, 13, 39, 54, 55] (by decide +kernel) (by decide +kernel)
set_option maxRecDepth 20000 in
theorem gX3_writeNumber_X10_push : GoodIn wsX3_writeNumber (wsV RX3 118 RX10 yX10_push wsX10_push) := goodIn_app (goodIn_of _ (by decide +kernel)) ggX3_writeNumber_X10_push
set_option maxRecDepth 20000 in
theorem ggX3_writeNumber_X3_step : GoodIn wsX3_writeNumber wsX3_step := goodIn_r _ [29, 2, 3, 19, 30, 40, 41, 42, 43, 44, 45, 46, 47, 48, 49, 50, 51, 52, 53] (by decide +kernel) (by decide +kernel)
set_option maxRecDepth 20000 in
theorem gX3_writeNumber_X3_step : GoodIn wsX3_writeNumber (wsV RX3 105 RX3 yX3_step wsX3_step) := goodIn_app (goodIn_of _ (by decide +kernel)) ggX3_writeNumber_X3_step
theorem dX3_writeNumber_0 : decode cX3_writeNumber 0 = .ok (.lload_n 1, 1) := by decide +kernel
theorem dX3_writeNumber_1 : decode cX3_writeNumber 1 = .ok (.lstore 4, 2) := by decide +kernel
theorem dX3_writeNumber_3 : decode cX3_writeNumber 3 = .ok (.iconst 0, 1) := by decide +kernel
theorem dX3_writeNumber_4 : decode cX3_writeNumber 4 = .ok (.istore 6, 2) := by decide +kernel
theorem dX3_writeNumber_6 : decode cX3_writeNumber 6 = .ok (.iload 6, 2) := by decide +kernel
theorem dX3_writeNumber_8 : decode cX3_writeNumber 8 = .ok (.bipush 30, 2) := by decide +kernel
theorem dX3_writeNumber_10 : decode cX3_writeNumber 10 = .ok (.if_icmp .gt 34, 3) := by decide +kernel
theorem dX3_writeNumber_13 : decode cX3_writeNumber 13 = .ok (.lload 4, 2) := by decide +kernel
theorem dX3_writeNumber_15 : decode cX3_writeNumber 15 = .ok (.aload_n 0, 1) := by decide +kernel
theorem dX3_writeNumber_16 : decode cX3_writeNumber 16 = .ok (.getfield 33, 3) := by decide +kernel
theorem dX3_writeNumber_19 : decode cX3_writeNumber 19 = .ok (.iload 6, 2) := by decide +kernel
theorem dX3_writeNumber_21 : decode cX3_writeNumber 21 = .ok (.laload, 1) := by decide +kernel
theorem dX3_writeNumber_22 : decode cX3_writeNumber 22 = .ok (.lcmp, 1) := by decide +kernel
theorem dX3_writeNumber_23 : decode cX3_writeNumber 23 = .ok (.ifCond .lt 21, 3) := by decide +kernel
theorem dX3_writeNumber_26 : decode cX3_writeNumber 26 = .ok (.lload 4, 2) := by decide +kernel
theorem dX3_writeNumber_28 : decode cX3_writeNumber 28 = .ok (.aload_n 0, 1) := by decide +kernel
theorem dX3_writeNumber_29 : decode cX3_writeNumber 29 = .ok (.getfield 33, 3) := by decide +kernel
theorem dX3_writeNumber_32 : decode cX3_writeNumber 32 = .ok (.iload 6, 2) := by decide +kernel
theorem dX3_writeNumber_34 : decode cX3_writeNumber 34 = .ok (.laload, 1) := by decide +kernel
theorem dX3_writeNumber_35 : decode cX3_writeNumber 35 = .ok (.lsub, 1) := by decide +kernel
theorem dX3_writeNumber_36 : decode cX3_writeNumber 36 = .ok (.lstore 4, 2) := by decide +kernel
theorem dX3_writeNumber_38 : decode cX3_writeNumber 38 = .ok (.iinc 6 1, 3) := by decide +kernel
theorem dX3_writeNumber_41 : decode cX3_writeNumber 41 = .ok (.goto (-35), 3) := by decide +kernel
theorem dX3_writeNumber_44 : decode cX3_writeNumber 44 = .ok (.iload 6, 2) := by decide +kernel
theorem dX3_writeNumber_46 : decode cX3_writeNumber 46 = .ok (.bipush 30, 2) := by decide +kernel
theorem dX3_writeNumber_48 : decode cX3_writeNumber 48 = .ok (.if_icmp .le 5, 3) := by decide +kernel
theorem dX3_writeNumber_51 : decode cX3_writeNumber 51 = .ok (.iconst 0, 1) := by decide +kernel
theorem dX3_writeNumber_52 : decode cX3_writeNumber 52 = .ok (.ireturn, 1) := by decide +kernel
theorem dX3_writeNumber_53 : decode cX3_writeNumber 53 = .ok (.aload_n 3, 1) := by decide +kernel
theorem dX3_writeNumber_54 : decode cX3_writeNumber 54 = .ok (.invokevirtual 108, 3) := by decide +kernel
theorem dX3_writeNumber_57 : decode cX3_writeNumber 57 = .ok (.iconst 0, 1) := by decide +kernel
theorem dX3_writeNumber_58 : decode cX3_writeNumber 58 = .ok (.istore 7, 2) := by decide +kernel
theorem dX3_writeNumber_60 : decode cX3_writeNumber 60 = .ok (.iconst 0, 1) := by decide +kernel
theorem dX3_writeNumber_61 : decode cX3_writeNumber 61 = .ok (.istore 8, 2) := by decide +kernel
theorem dX3_writeNumber_63 : decode cX3_writeNumber 63 = .ok (.iload 8, 2) := by decide +kernel
theorem dX3_writeNumber_65 : decode cX3_writeNumber 65 = .ok (.iload 6, 2) := by decide +kernel
theorem dX3_writeNumber_67 : decode cX3_writeNumber 67 = .ok (.if_icmp .ge 91, 3) := by decide +kernel
theorem dX3_writeNumber_70 : decode cX3_writeNumber 70 = .ok (.aload_n 0, 1) := by decide +kernel
theorem dX3_writeNumber_71 : decode cX3_writeNumber 71 = .ok (.iload 6, 2) := by decide +kernel
theorem dX3_writeNumber_73 : decode cX3_writeNumber 73 = .ok (.iconst 1, 1) := by decide +kernel
theorem dX3_writeNumber_74 : decode cX3_writeNumber 74 = .ok (.isub, 1) := by decide +kernel
theorem dX3_writeNumber_75 : decode cX3_writeNumber 75 = .ok (.iload 8, 2) := by decide +kernel
theorem dX3_writeNumber_77 : decode cX3_writeNumber 77 = .ok (.isub, 1) := by decide +kernel
theorem dX3_writeNumber_78 : decode cX3_writeNumber 78 = .ok (.invokevirtual 111, 3) := by decide +kernel
theorem dX3_writeNumber_81 : decode cX3_writeNumber 81 = .ok (.iconst 0, 1) := by decide +kernel
theorem dX3_writeNumber_82 : decode cX3_writeNumber 82 = .ok (.istore 9, 2) := by decide +kernel
theorem dX3_writeNumber_84 : decode cX3_writeNumber 84 = .ok (.iload 9, 2) := by decide +kernel
theorem dX3_writeNumber_86 : decode cX3_writeNumber 86 = .ok (.aload_n 0, 1) := by decide +kernel
theorem dX3_writeNumber_87 : decode cX3_writeNumber 87 = .ok (.getfield 9, 3) := by decide +kernel
theorem dX3_writeNumber_90 : decode cX3_writeNumber 90 = .ok (.getfield 40, 3) := by decide +kernel
theorem dX3_writeNumber_93 : decode cX3_writeNumber 93 = .ok (.iconst 1, 1) := by decide +kernel
theorem dX3_writeNumber_94 : decode cX3_writeNumber 94 = .ok (.isub, 1) := by decide +kernel
theorem dX3_writeNumber_95 : decode cX3_writeNumber 95 = .ok (.if_icmp .ge 36, 3) := by decide +kernel
theorem dX3_writeNumber_98 : decode cX3_writeNumber 98 = .ok (.lload 4, 2) := by decide +kernel
theorem dX3_writeNumber_100 : decode cX3_writeNumber 100 = .ok (.aload_n 0, 1) := by decide +kernel
theorem dX3_writeNumber_101 : decode cX3_writeNumber 101 = .ok (.iload 7, 2) := by decide +kernel
theorem dX3_writeNumber_103 : decode cX3_writeNumber 103 = .ok (.iload 9, 2) := by decide +kernel
theorem dX3_writeNumber_105 : decode cX3_writeNumber 105 = .ok (.invokevirtual 114, 3) := by decide +kernel
theorem dX3_writeNumber_108 : decode cX3_writeNumber 108 = .ok (.lcmp, 1) := by decide +kernel
theorem dX3_writeNumber_109 : decode cX3_writeNumber 109 = .ok (.ifCond .lt 22, 3) := by decide +kernel
theorem dX3_writeNumber_112 : decode cX3_writeNumber 112 = .ok (.lload 4, 2) := by decide +kernel
theorem dX3_writeNumber_114 : decode cX3_writeNumber 114 = .ok (.aload_n 0, 1) := by decide +kernel
theorem dX3_writeNumber_115 : decode cX3_writeNumber 115 = .ok (.iload 7, 2) := by decide +kernel
theorem dX3_writeNumber_117 : decode cX3_writeNumber 117 = .ok (.iload 9, 2) := by decide +kernel
theorem dX3_writeNumber_119 : decode cX3_writeNumber 119 = .ok (.invokevirtual 114, 3) := by decide +kernel
theorem dX3_writeNumber_122 : decode cX3_writeNumber 122 = .ok (.lsub, 1) := by decide +kernel
theorem dX3_writeNumber_123 : decode cX3_writeNumber 123 = .ok (.lstore 4, 2) := by decide +kernel
theorem dX3_writeNumber_125 : decode cX3_writeNumber 125 = .ok (.iinc 9 1, 3) := by decide +kernel
theorem dX3_writeNumber_128 : decode cX3_writeNumber 128 = .ok (.goto (-44), 3) := by decide +kernel
theorem dX3_writeNumber_131 : decode cX3_writeNumber 131 = .ok (.aload_n 3, 1) := by decide +kernel
theorem dX3_writeNumber_132 : decode cX3_writeNumber 132 = .ok (.iload 9, 2) := by decide +kernel
theorem dX3_writeNumber_134 : decode cX3_writeNumber 134 = .ok (.invokevirtual 118, 3) := by decide +kernel
theorem dX3_writeNumber_137 : decode cX3_writeNumber 137 = .ok (.pop, 1) := by decide +kernel
theorem dX3_writeNumber_138 : decode cX3_writeNumber 138 = .ok (.aload_n 0, 1) := by decide +kernel
theorem dX3_writeNumber_139 : decode cX3_writeNumber 139 = .ok (.iload 7, 2) := by decide +kernel
theorem dX3_writeNumber_141 : decode cX3_writeNumber 141 = .ok (.iload 9, 2) := by decide +kernel
theorem dX3_writeNumber_143 : decode cX3_writeNumber 143 = .ok (.invokevirtual 105, 3) := by decide +kernel
theorem dX3_writeNumber_146 : decode cX3_writeNumber 146 = .ok (.iconst 0, 1) := by decide +kernel
theorem dX3_writeNumber_147 : decode cX3_writeNumber 147 = .ok (.invokestatic 121, 3) := by decide +kernel
theorem dX3_writeNumber_150 : decode cX3_writeNumber 150 = .ok (.istore 7, 2) := by decide +kernel
theorem dX3_writeNumber_152 : decode cX3_writeNumber 152 = .ok (.iinc 8 1, 3) := by decide +kernel
theorem dX3_writeNumber_155 : decode cX3_writeNumber 155 = .ok (.goto (-92), 3) := by decide +kernel
theorem dX3_writeNumber_158 : decode cX3_writeNumber 158 = .ok (.iconst 1, 1) := by decide +kernel
theorem dX3_writeNumber_159 : decode cX3_writeNumber 159 = .ok (.ireturn, 1) := by decide +kernel
set_option maxRecDepth 20000 in
theorem ggX4_add_X10_pack : GoodIn wsX4_add wsX10_pack := goodIn_r _ [9, 10, 11, 12, 13, 14] (by decide +kernel) (by decide +kernel)
set_option maxRecDepth 20000 in
theorem gX4_add_X10_pack : GoodIn wsX4_add (wsV RX4 27 RX10 yX10_pack wsX10_pack) := goodIn_app (goodIn_of _ (by decide +kernel)) ggX4_add_X10_pack
theorem dX4_add_0 : decode cX4_add 0 = .ok (.aload_n 1, 1) := by decide +kernel
theorem dX4_add_1 : decode cX4_add 1 = .ok (.iconst 0, 1) := by decide +kernel
theorem dX4_add_2 : decode cX4_add 2 = .ok (.aload_n 1, 1) := by decide +kernel
theorem dX4_add_3 : decode cX4_add 3 = .ok (.getfield 22, 3) := by decide +kernel
theorem dX4_add_6 : decode cX4_add 6 = .ok (.invokevirtual 27, 3) := by decide +kernel
theorem dX4_add_9 : decode cX4_add 9 = .ok (.lstore_n 2, 1) := by decide +kernel
theorem dX4_add_10 : decode cX4_add 10 = .ok (.aload_n 1, 1) := by decide +kernel
theorem dX4_add_11 : decode cX4_add 11 = .ok (.bipush 30, 2) := by decide +kernel
theorem dX4_add_13 : decode cX4_add 13 = .ok (.aload_n 1, 1) := by decide +kernel
theorem dX4_add_14 : decode cX4_add 14 = .ok (.getfield 22, 3) := by decide +kernel
theorem dX4_add_17 : decode cX4_add 17 = .ok (.invokevirtual 27, 3) := by decide +kernel
theorem dX4_add_20 : decode cX4_add 20 = .ok (.lstore 4, 2) := by decide +kernel
theorem dX4_add_22 : decode cX4_add 22 = .ok (.iconst 0, 1) := by decide +kernel
theorem dX4_add_23 : decode cX4_add 23 = .ok (.istore 6, 2) := by decide +kernel
theorem dX4_add_25 : decode cX4_add 25 = .ok (.iload 6, 2) := by decide +kernel
theorem dX4_add_27 : decode cX4_add 27 = .ok (.aload_n 0, 1) := by decide +kernel
theorem dX4_add_28 : decode cX4_add 28 = .ok (.getfield 18, 3) := by decide +kernel
theorem dX4_add_31 : decode cX4_add 31 = .ok (.if_icmp .ge 36, 3) := by decide +kernel
theorem dX4_add_34 : decode cX4_add 34 = .ok (.aload_n 0, 1) := by decide +kernel
theorem dX4_add_35 : decode cX4_add 35 = .ok (.getfield 9, 3) := by decide +kernel
theorem dX4_add_38 : decode cX4_add 38 = .ok (.iload 6, 2) := by decide +kernel
theorem dX4_add_40 : decode cX4_add 40 = .ok (.laload, 1) := by decide +kernel
theorem dX4_add_41 : decode cX4_add 41 = .ok (.lload_n 2, 1) := by decide +kernel
theorem dX4_add_42 : decode cX4_add 42 = .ok (.lcmp, 1) := by decide +kernel
theorem dX4_add_43 : decode cX4_add 43 = .ok (.ifCond .ne 18, 3) := by decide +kernel
theorem dX4_add_46 : decode cX4_add 46 = .ok (.aload_n 0, 1) := by decide +kernel
theorem dX4_add_47 : decode cX4_add 47 = .ok (.getfield 15, 3) := by decide +kernel
theorem dX4_add_50 : decode cX4_add 50 = .ok (.iload 6, 2) := by decide +kernel
theorem dX4_add_52 : decode cX4_add 52 = .ok (.laload, 1) := by decide +kernel
theorem dX4_add_53 : decode cX4_add 53 = .ok (.lload 4, 2) := by decide +kernel
theorem dX4_add_55 : decode cX4_add 55 = .ok (.lcmp, 1) := by decide +kernel
theorem dX4_add_56 : decode cX4_add 56 = .ok (.ifCond .ne 5, 3) := by decide +kernel
theorem dX4_add_59 : decode cX4_add 59 = .ok (.iconst 1, 1) := by decide +kernel
theorem dX4_add_60 : decode cX4_add 60 = .ok (.ireturn, 1) := by decide +kernel
theorem dX4_add_61 : decode cX4_add 61 = .ok (.iinc 6 1, 3) := by decide +kernel
theorem dX4_add_64 : decode cX4_add 64 = .ok (.goto (-39), 3) := by decide +kernel
theorem dX4_add_67 : decode cX4_add 67 = .ok (.aload_n 0, 1) := by decide +kernel
theorem dX4_add_68 : decode cX4_add 68 = .ok (.getfield 18, 3) := by decide +kernel
theorem dX4_add_71 : decode cX4_add 71 = .ok (.sipush 300, 3) := by decide +kernel
theorem dX4_add_74 : decode cX4_add 74 = .ok (.if_icmp .lt 5, 3) := by decide +kernel
theorem dX4_add_77 : decode cX4_add 77 = .ok (.iconst 0, 1) := by decide +kernel
theorem dX4_add_78 : decode cX4_add 78 = .ok (.ireturn, 1) := by decide +kernel
theorem dX4_add_79 : decode cX4_add 79 = .ok (.aload_n 0, 1) := by decide +kernel
theorem dX4_add_80 : decode cX4_add 80 = .ok (.getfield 9, 3) := by decide +kernel
theorem dX4_add_83 : decode cX4_add 83 = .ok (.aload_n 0, 1) := by decide +kernel
theorem dX4_add_84 : decode cX4_add 84 = .ok (.getfield 18, 3) := by decide +kernel
theorem dX4_add_87 : decode cX4_add 87 = .ok (.lload_n 2, 1) := by decide +kernel
theorem dX4_add_88 : decode cX4_add 88 = .ok (.lastore, 1) := by decide +kernel
theorem dX4_add_89 : decode cX4_add 89 = .ok (.aload_n 0, 1) := by decide +kernel
theorem dX4_add_90 : decode cX4_add 90 = .ok (.getfield 15, 3) := by decide +kernel
theorem dX4_add_93 : decode cX4_add 93 = .ok (.aload_n 0, 1) := by decide +kernel
theorem dX4_add_94 : decode cX4_add 94 = .ok (.getfield 18, 3) := by decide +kernel
theorem dX4_add_97 : decode cX4_add 97 = .ok (.lload 4, 2) := by decide +kernel
theorem dX4_add_99 : decode cX4_add 99 = .ok (.lastore, 1) := by decide +kernel
theorem dX4_add_100 : decode cX4_add 100 = .ok (.aload_n 0, 1) := by decide +kernel
theorem dX4_add_101 : decode cX4_add 101 = .ok (.dup, 1) := by decide +kernel
theorem dX4_add_102 : decode cX4_add 102 = .ok (.getfield 18, 3) := by decide +kernel
theorem dX4_add_105 : decode cX4_add 105 = .ok (.iconst 1, 1) := by decide +kernel
theorem dX4_add_106 : decode cX4_add 106 = .ok (.iadd, 1) := by decide +kernel
theorem dX4_add_107 : decode cX4_add 107 = .ok (.putfield 18, 3) := by decide +kernel
theorem dX4_add_110 : decode cX4_add 110 = .ok (.iconst 1, 1) := by decide +kernel
theorem dX4_add_111 : decode cX4_add 111 = .ok (.ireturn, 1) := by decide +kernel
theorem dX4_begin_0 : decode cX4_begin 0 = .ok (.aload_n 0, 1) := by decide +kernel
theorem dX4_begin_1 : decode cX4_begin 1 = .ok (.getfield 9, 3) := by decide +kernel
theorem dX4_begin_4 : decode cX4_begin 4 = .ok (.iconst 0, 1) := by decide +kernel
theorem dX4_begin_5 : decode cX4_begin 5 = .ok (.lconst 1, 1) := by decide +kernel
theorem dX4_begin_6 : decode cX4_begin 6 = .ok (.lastore, 1) := by decide +kernel
theorem dX4_begin_7 : decode cX4_begin 7 = .ok (.aload_n 0, 1) := by decide +kernel
theorem dX4_begin_8 : decode cX4_begin 8 = .ok (.getfield 15, 3) := by decide +kernel
theorem dX4_begin_11 : decode cX4_begin 11 = .ok (.iconst 0, 1) := by decide +kernel
theorem dX4_begin_12 : decode cX4_begin 12 = .ok (.lconst 1, 1) := by decide +kernel
theorem dX4_begin_13 : decode cX4_begin 13 = .ok (.lastore, 1) := by decide +kernel
theorem dX4_begin_14 : decode cX4_begin 14 = .ok (.aload_n 0, 1) := by decide +kernel
theorem dX4_begin_15 : decode cX4_begin 15 = .ok (.iconst 1, 1) := by decide +kernel
theorem dX4_begin_16 : decode cX4_begin 16 = .ok (.putfield 18, 3) := by decide +kernel
theorem dX4_begin_19 : decode cX4_begin 19 = .ok (.return_, 1) := by decide +kernel
theorem dX4_init_0 : decode cX4_init 0 = .ok (.aload_n 0, 1) := by decide +kernel
theorem dX4_init_1 : decode cX4_init 1 = .ok (.invokespecial 3, 3) := by decide +kernel
theorem dX4_init_4 : decode cX4_init 4 = .ok (.aload_n 0, 1) := by decide +kernel
theorem dX4_init_5 : decode cX4_init 5 = .ok (.sipush 300, 3) := by decide +kernel
theorem dX4_init_8 : decode cX4_init 8 = .ok (.newarray .long, 2) := by decide +kernel
theorem dX4_init_10 : decode cX4_init 10 = .ok (.putfield 9, 3) := by decide +kernel
theorem dX4_init_13 : decode cX4_init 13 = .ok (.aload_n 0, 1) := by decide +kernel
theorem dX4_init_14 : decode cX4_init 14 = .ok (.sipush 300, 3) := by decide +kernel
theorem dX4_init_17 : decode cX4_init 17 = .ok (.newarray .long, 2) := by decide +kernel
theorem dX4_init_19 : decode cX4_init 19 = .ok (.putfield 15, 3) := by decide +kernel
theorem dX4_init_22 : decode cX4_init 22 = .ok (.return_, 1) := by decide +kernel
set_option maxRecDepth 20000 in
theorem ggX4_read_X10_wipe : GoodIn wsX4_read wsX10_wipe := goodIn_r _ [8, 9, 19, 20] (by decide +kernel) (by decide +kernel)
set_option maxRecDepth 20000 in
theorem gX4_read_X10_wipe : GoodIn wsX4_read (wsV RX4 31 RX10 yX10_wipe wsX10_wipe) := goodIn_app (goodIn_of _ (by decide +kernel)) ggX4_read_X10_wipe
set_option maxRecDepth 20000 in
theorem ggX4_read_X10_unpack : GoodIn wsX4_read wsX10_unpack := goodIn_r _ [13, 9, 14, 15, 19, 20] (by decide +kernel) (by decide +kernel)
set_option maxRecDepth 20000 in
theorem gX4_read_X10_unpack : GoodIn wsX4_read (wsV RX4 34 RX10 yX10_unpack wsX10_unpack) := goodIn_app (goodIn_of _ (by decide +kernel)) ggX4_read_X10_unpack
theorem dX4_read_0 : decode cX4_read 0 = .ok (.aload_n 2, 1) := by decide +kernel
theorem dX4_read_1 : decode cX4_read 1 = .ok (.invokevirtual 31, 3) := by decide +kernel
theorem dX4_read_4 : decode cX4_read 4 = .ok (.iload_n 1, 1) := by decide +kernel
theorem dX4_read_5 : decode cX4_read 5 = .ok (.ifCond .lt 27, 3) := by decide +kernel
theorem dX4_read_8 : decode cX4_read 8 = .ok (.iload_n 1, 1) := by decide +kernel
theorem dX4_read_9 : decode cX4_read 9 = .ok (.aload_n 0, 1) := by decide +kernel
theorem dX4_read_10 : decode cX4_read 10 = .ok (.getfield 18, 3) := by decide +kernel
theorem dX4_read_13 : decode cX4_read 13 = .ok (.if_icmp .ge 19, 3) := by decide +kernel
theorem dX4_read_16 : decode cX4_read 16 = .ok (.aload_n 2, 1) := by decide +kernel
theorem dX4_read_17 : decode cX4_read 17 = .ok (.aload_n 0, 1) := by decide +kernel
theorem dX4_read_18 : decode cX4_read 18 = .ok (.getfield 9, 3) := by decide +kernel
theorem dX4_read_21 : decode cX4_read 21 = .ok (.iload_n 1, 1) := by decide +kernel
theorem dX4_read_22 : decode cX4_read 22 = .ok (.laload, 1) := by decide +kernel
theorem dX4_read_23 : decode cX4_read 23 = .ok (.aload_n 0, 1) := by decide +kernel
theorem dX4_read_24 : decode cX4_read 24 = .ok (.getfield 15, 3) := by decide +kernel
theorem dX4_read_27 : decode cX4_read 27 = .ok (.iload_n 1, 1) := by decide +kernel
theorem dX4_read_28 : decode cX4_read 28 = .ok (.laload, 1) := by decide +kernel
theorem dX4_read_29 : decode cX4_read 29 = .ok (.invokevirtual 34, 3) := by decide +kernel
theorem dX4_read_32 : decode cX4_read 32 = .ok (.return_, 1) := by decide +kernel
set_option maxRecDepth 20000 in
theorem ggX5_agree_X6_run : GoodIn wsX5_agree wsX6_run := goodIn_r _ [8, 9, 10, 11, 12, 13, 14, 15, 16, 17, 18, 19, 20, 21, 22, 23, 24, 25, 26, 27, 28, 29, 30, 31, 7, 32, 33, 34, 35, 36, 37, 38, 39, 40, 41, 42, 43, 44, 45, 46, 47, 48, 49, 50, 51, 52, 53, 54, 55, 56, 57, 58, 59, 60, 61, 62, 63, 64, 65, 66, 67, 68, 69, 70, 71, 72, 73, 74, 75, 76, 77, 78, 79, 80, 81, 82, 83, 84, 85, 86, 87, 88, 89, 90, 91, 92, 93, 94, 95, 96, 97, 98, 99, 100, 101, 102, 103, 104, 105, 106, 107, 108, 109, 110, 111, 112, 113, 114, 115, 116, 117, 118, 119, 120, 121, 122, 123, 124, 125, 126, 127, 128, 129, 130, 131, 132, 133, 134, 135, 136, 137, 138, 139, 140, 141, 142, 143, 144, 145, 146, 147, 148, 149, 150, 151, 152, 153, 154, 155, 156, 157, 158, 159, 160, 161, 162, 163, 164, 165, 166, 167, 168, 169, 170, 171, 172, 173, 174, 175, 176, 177, 178, 179, 180, 181, 182, 183, 184, 185, 186, 187, 188, 189, 190, 191, 192, 193, 194, 195, 196, 197, 198, 199, 200, 201, 202, 203, 204, 205, 206, 207, 208, 209, 210, 211, 212, 213, 214, 215, 216, 217, 218, 219, 220, 221, 222, 223, 224, 225, 226, 227, 228, 229, 230, 231, 232, 233, 234, 235, 236, 237, 238, 239, 240, 241, 242, 243, 244, 253, 254, 255, 256, 257, 258, 259, 260, 261, 262, 263, 264, 265, 266, 267, 268, 269, 270, 271, 272, 273, 274, 275, 276, 277, 278, 279, 280, 281, 282, 283, 284, 285, 286, 287, 288, 289, 290, 291, 292, 293, 294, 295, 296, 297, 298, 299, 300, 301, 302, 303] rfl (by decide +kernel)
set_option maxRecDepth 20000 in
theorem gX5_agree_X6_run : GoodIn wsX5_agree (wsV RX5 62 RX6 yX6_run wsX6_run) := goodIn_app (goodIn_of _ (by decide +kernel)) ggX5_agree_X6_run
set_option maxRecDepth 20000 in
theorem ggX5_agree_X10_isSame : GoodIn wsX5_agree wsX10_isSame := goodIn_r _ [248, 28, 64, 259, 260] (by decide +kernel) (by decide +kernel)
set_option maxRecDepth 20000 in
theorem gX5_agree_X10_isSame : GoodIn wsX5_agree (wsV RX5 68 RX10 yX10_isSame wsX10_isSame) := goodIn_app (goodIn_of _ (by decide +kernel)) ggX5_agree_X10_isSame
theorem dX5_agree_0 : decode cX5_agree 0 = .ok (.aload_n 0, 1) := by decide +kernel
theorem dX5_agree_1 : decode cX5_agree 1 = .ok (.getfield 13, 3) := by decide +kernel
theorem dX5_agree_4 : decode cX5_agree 4 = .ok (.aload_n 0, 1) := by decide +kernel
theorem dX5_agree_5 : decode cX5_agree 5 = .ok (.getfield 17, 3) := by decide +kernel
theorem dX5_agree_8 : decode cX5_agree 8 = .ok (.aload_n 0, 1) := by decide +kernel
theorem dX5_agree_9 : decode cX5_agree 9 = .ok (.getfield 17, 3) := by decide +kernel
theorem dX5_agree_12 : decode cX5_agree 12 = .ok (.invokevirtual 62, 3) := by decide +kernel
theorem dX5_agree_15 : decode cX5_agree 15 = .ok (.ifCond .eq 39, 3) := by decide +kernel
theorem dX5_agree_18 : decode cX5_agree 18 = .ok (.aload_n 0, 1) := by decide +kernel
theorem dX5_agree_19 : decode cX5_agree 19 = .ok (.getfield 13, 3) := by decide +kernel
theorem dX5_agree_22 : decode cX5_agree 22 = .ok (.aload_n 0, 1) := by decide +kernel
theorem dX5_agree_23 : decode cX5_agree 23 = .ok (.getfield 21, 3) := by decide +kernel
theorem dX5_agree_26 : decode cX5_agree 26 = .ok (.aload_n 0, 1) := by decide +kernel
theorem dX5_agree_27 : decode cX5_agree 27 = .ok (.getfield 21, 3) := by decide +kernel
theorem dX5_agree_30 : decode cX5_agree 30 = .ok (.invokevirtual 62, 3) := by decide +kernel
theorem dX5_agree_33 : decode cX5_agree 33 = .ok (.ifCond .eq 21, 3) := by decide +kernel
theorem dX5_agree_36 : decode cX5_agree 36 = .ok (.aload_n 0, 1) := by decide +kernel
theorem dX5_agree_37 : decode cX5_agree 37 = .ok (.getfield 17, 3) := by decide +kernel
theorem dX5_agree_40 : decode cX5_agree 40 = .ok (.aload_n 0, 1) := by decide +kernel
theorem dX5_agree_41 : decode cX5_agree 41 = .ok (.getfield 21, 3) := by decide +kernel
theorem dX5_agree_44 : decode cX5_agree 44 = .ok (.invokevirtual 68, 3) := by decide +kernel
theorem dX5_agree_47 : decode cX5_agree 47 = .ok (.ifCond .eq 7, 3) := by decide +kernel
theorem dX5_agree_50 : decode cX5_agree 50 = .ok (.iconst 1, 1) := by decide +kernel
theorem dX5_agree_51 : decode cX5_agree 51 = .ok (.goto 4, 3) := by decide +kernel
theorem dX5_agree_54 : decode cX5_agree 54 = .ok (.iconst 0, 1) := by decide +kernel
theorem dX5_agree_55 : decode cX5_agree 55 = .ok (.ireturn, 1) := by decide +kernel
