set_option maxRecDepth 20000 in
theorem ggX1_join_X1_leastOf : GoodIn wsX1_join wsX1_leastOf := goodIn_r _ [7, 1, 2, 8, 9, 10] (by decide +kernel) (by decide +kernel)
set_option maxRecDepth 20000 in
theorem gX1_join_X1_leastOf : GoodIn wsX1_join (wsV RX1 58 RX1 yX1_leastOf wsX1_leastOf) := goodIn_app (goodIn_of _ (by decide +kernel)) ggX1_join_X1_leastOf
theorem dX1_join_0 : decode cX1_join 0 = .ok (.iload_n 1, 1) := by decide +kernel
theorem dX1_join_1 : decode cX1_join 1 = .ok (.ifCond .lt 23, 3) := by decide +kernel
theorem dX1_join_4 : decode cX1_join 4 = .ok (.iload_n 1, 1) := by decide +kernel
theorem dX1_join_5 : decode cX1_join 5 = .ok (.aload_n 0, 1) := by decide +kernel
theorem dX1_join_6 : decode cX1_join 6 = .ok (.getfield 21, 3) := by decide +kernel
theorem dX1_join_9 : decode cX1_join 9 = .ok (.if_icmp .ge 15, 3) := by decide +kernel
theorem dX1_join_12 : decode cX1_join 12 = .ok (.iload_n 2, 1) := by decide +kernel
theorem dX1_join_13 : decode cX1_join 13 = .ok (.ifCond .lt 11, 3) := by decide +kernel
theorem dX1_join_16 : decode cX1_join 16 = .ok (.iload_n 2, 1) := by decide +kernel
theorem dX1_join_17 : decode cX1_join 17 = .ok (.aload_n 0, 1) := by decide +kernel
theorem dX1_join_18 : decode cX1_join 18 = .ok (.getfield 21, 3) := by decide +kernel
theorem dX1_join_21 : decode cX1_join 21 = .ok (.if_icmp .lt 4, 3) := by decide +kernel
theorem dX1_join_24 : decode cX1_join 24 = .ok (.return_, 1) := by decide +kernel
theorem dX1_join_25 : decode cX1_join 25 = .ok (.aload_n 0, 1) := by decide +kernel
theorem dX1_join_26 : decode cX1_join 26 = .ok (.iload_n 1, 1) := by decide +kernel
theorem dX1_join_27 : decode cX1_join 27 = .ok (.invokevirtual 58, 3) := by decide +kernel
theorem dX1_join_30 : decode cX1_join 30 = .ok (.istore_n 3, 1) := by decide +kernel
theorem dX1_join_31 : decode cX1_join 31 = .ok (.aload_n 0, 1) := by decide +kernel
theorem dX1_join_32 : decode cX1_join 32 = .ok (.iload_n 2, 1) := by decide +kernel
theorem dX1_join_33 : decode cX1_join 33 = .ok (.invokevirtual 58, 3) := by decide +kernel
theorem dX1_join_36 : decode cX1_join 36 = .ok (.istore 4, 2) := by decide +kernel
theorem dX1_join_38 : decode cX1_join 38 = .ok (.iload_n 3, 1) := by decide +kernel
theorem dX1_join_39 : decode cX1_join 39 = .ok (.iload 4, 2) := by decide +kernel
theorem dX1_join_41 : decode cX1_join 41 = .ok (.if_icmp .ge 14, 3) := by decide +kernel
theorem dX1_join_44 : decode cX1_join 44 = .ok (.aload_n 0, 1) := by decide +kernel
theorem dX1_join_45 : decode cX1_join 45 = .ok (.getfield 9, 3) := by decide +kernel
theorem dX1_join_48 : decode cX1_join 48 = .ok (.iload 4, 2) := by decide +kernel
theorem dX1_join_50 : decode cX1_join 50 = .ok (.iload_n 3, 1) := by decide +kernel
theorem dX1_join_51 : decode cX1_join 51 = .ok (.iastore, 1) := by decide +kernel
theorem dX1_join_52 : decode cX1_join 52 = .ok (.goto 11, 3) := by decide +kernel
theorem dX1_join_55 : decode cX1_join 55 = .ok (.aload_n 0, 1) := by decide +kernel
theorem dX1_join_56 : decode cX1_join 56 = .ok (.getfield 9, 3) := by decide +kernel
theorem dX1_join_59 : decode cX1_join 59 = .ok (.iload_n 3, 1) := by decide +kernel
theorem dX1_join_60 : decode cX1_join 60 = .ok (.iload 4, 2) := by decide +kernel
theorem dX1_join_62 : decode cX1_join 62 = .ok (.iastore, 1) := by decide +kernel
theorem dX1_join_63 : decode cX1_join 63 = .ok (.return_, 1) := by decide +kernel
set_option maxRecDepth 20000 in
theorem ggX1_joinBetween_X8_powerOf : GoodIn wsX1_joinBetween wsX8_powerOf := goodIn_r _ [6, 7, 8, 34, 35, 36, 37] (by decide +kernel) (by decide +kernel)
set_option maxRecDepth 20000 in
theorem gX1_joinBetween_X8_powerOf : GoodIn wsX1_joinBetween (wsV RX1 41 RX8 yX8_powerOf wsX8_powerOf) := goodIn_app (goodIn_of _ (by decide +kernel)) ggX1_joinBetween_X8_powerOf
set_option maxRecDepth 20000 in
theorem ggX1_joinBetween_X8_firstOf : GoodIn wsX1_joinBetween wsX8_firstOf := goodIn_r _ [12, 7, 13, 34, 35, 36, 37] (by decide +kernel) (by decide +kernel)
set_option maxRecDepth 20000 in
theorem gX1_joinBetween_X8_firstOf : GoodIn wsX1_joinBetween (wsV RX1 47 RX8 yX8_firstOf wsX8_firstOf) := goodIn_app (goodIn_of _ (by decide +kernel)) ggX1_joinBetween_X8_firstOf
set_option maxRecDepth 20000 in
theorem ggX1_joinBetween_X8_valueOf : GoodIn wsX1_joinBetween wsX8_valueOf := goodIn_r _ [17, 18, 19, 20, 32, 33, 34, 35, 36, 37] (by decide +kernel) (by decide +kernel)
set_option maxRecDepth 20000 in
theorem gX1_joinBetween_X8_valueOf : GoodIn wsX1_joinBetween (wsV RX1 50 RX8 yX8_valueOf wsX8_valueOf) := goodIn_app (goodIn_of _ (by decide +kernel)) ggX1_joinBetween_X8_valueOf
set_option maxRecDepth 20000 in
theorem ggX1_joinBetween_X1_join : GoodIn wsX1_joinBetween wsX1_join := goodIn_r _ [25, 26, 27, 28, 29, 30, 24, 31, 38, 39, 40] (by decide +kernel) (by decide +kernel)
set_option maxRecDepth 20000 in
theorem gX1_joinBetween_X1_join : GoodIn wsX1_joinBetween (wsV RX1 54 RX1 yX1_join wsX1_join) := goodIn_app (goodIn_of _ (by decide +kernel)) ggX1_joinBetween_X1_join
theorem dX1_joinBetween_0 : decode cX1_joinBetween 0 = .ok (.aload_n 3, 1) := by decide +kernel
theorem dX1_joinBetween_1 : decode cX1_joinBetween 1 = .ok (.iload 5, 2) := by decide +kernel
theorem dX1_joinBetween_3 : decode cX1_joinBetween 3 = .ok (.invokevirtual 41, 3) := by decide +kernel
theorem dX1_joinBetween_6 : decode cX1_joinBetween 6 = .ok (.istore 6, 2) := by decide +kernel
theorem dX1_joinBetween_8 : decode cX1_joinBetween 8 = .ok (.aload_n 3, 1) := by decide +kernel
theorem dX1_joinBetween_9 : decode cX1_joinBetween 9 = .ok (.iload 4, 2) := by decide +kernel
theorem dX1_joinBetween_11 : decode cX1_joinBetween 11 = .ok (.invokevirtual 41, 3) := by decide +kernel
theorem dX1_joinBetween_14 : decode cX1_joinBetween 14 = .ok (.istore 7, 2) := by decide +kernel
theorem dX1_joinBetween_16 : decode cX1_joinBetween 16 = .ok (.aload_n 3, 1) := by decide +kernel
theorem dX1_joinBetween_17 : decode cX1_joinBetween 17 = .ok (.iload 4, 2) := by decide +kernel
theorem dX1_joinBetween_19 : decode cX1_joinBetween 19 = .ok (.aload_n 1, 1) := by decide +kernel
theorem dX1_joinBetween_20 : decode cX1_joinBetween 20 = .ok (.getfield 25, 3) := by decide +kernel
theorem dX1_joinBetween_23 : decode cX1_joinBetween 23 = .ok (.iadd, 1) := by decide +kernel
theorem dX1_joinBetween_24 : decode cX1_joinBetween 24 = .ok (.iload 5, 2) := by decide +kernel
theorem dX1_joinBetween_26 : decode cX1_joinBetween 26 = .ok (.iadd, 1) := by decide +kernel
theorem dX1_joinBetween_27 : decode cX1_joinBetween 27 = .ok (.invokevirtual 47, 3) := by decide +kernel
theorem dX1_joinBetween_30 : decode cX1_joinBetween 30 = .ok (.aload_n 3, 1) := by decide +kernel
theorem dX1_joinBetween_31 : decode cX1_joinBetween 31 = .ok (.aload_n 1, 1) := by decide +kernel
theorem dX1_joinBetween_32 : decode cX1_joinBetween 32 = .ok (.invokevirtual 50, 3) := by decide +kernel
theorem dX1_joinBetween_35 : decode cX1_joinBetween 35 = .ok (.iload 6, 2) := by decide +kernel
theorem dX1_joinBetween_37 : decode cX1_joinBetween 37 = .ok (.imul, 1) := by decide +kernel
theorem dX1_joinBetween_38 : decode cX1_joinBetween 38 = .ok (.iadd, 1) := by decide +kernel
theorem dX1_joinBetween_39 : decode cX1_joinBetween 39 = .ok (.istore 8, 2) := by decide +kernel
theorem dX1_joinBetween_41 : decode cX1_joinBetween 41 = .ok (.aload_n 3, 1) := by decide +kernel
theorem dX1_joinBetween_42 : decode cX1_joinBetween 42 = .ok (.iload 4, 2) := by decide +kernel
theorem dX1_joinBetween_44 : decode cX1_joinBetween 44 = .ok (.aload_n 2, 1) := by decide +kernel
theorem dX1_joinBetween_45 : decode cX1_joinBetween 45 = .ok (.getfield 25, 3) := by decide +kernel
theorem dX1_joinBetween_48 : decode cX1_joinBetween 48 = .ok (.iadd, 1) := by decide +kernel
theorem dX1_joinBetween_49 : decode cX1_joinBetween 49 = .ok (.iload 5, 2) := by decide +kernel
theorem dX1_joinBetween_51 : decode cX1_joinBetween 51 = .ok (.iadd, 1) := by decide +kernel
theorem dX1_joinBetween_52 : decode cX1_joinBetween 52 = .ok (.invokevirtual 47, 3) := by decide +kernel
theorem dX1_joinBetween_55 : decode cX1_joinBetween 55 = .ok (.aload_n 3, 1) := by decide +kernel
theorem dX1_joinBetween_56 : decode cX1_joinBetween 56 = .ok (.aload_n 2, 1) := by decide +kernel
theorem dX1_joinBetween_57 : decode cX1_joinBetween 57 = .ok (.invokevirtual 50, 3) := by decide +kernel
theorem dX1_joinBetween_60 : decode cX1_joinBetween 60 = .ok (.iload 6, 2) := by decide +kernel
theorem dX1_joinBetween_62 : decode cX1_joinBetween 62 = .ok (.imul, 1) := by decide +kernel
theorem dX1_joinBetween_63 : decode cX1_joinBetween 63 = .ok (.iadd, 1) := by decide +kernel
theorem dX1_joinBetween_64 : decode cX1_joinBetween 64 = .ok (.istore 9, 2) := by decide +kernel
theorem dX1_joinBetween_66 : decode cX1_joinBetween 66 = .ok (.aload_n 3, 1) := by decide +kernel
theorem dX1_joinBetween_67 : decode cX1_joinBetween 67 = .ok (.aload_n 1, 1) := by decide +kernel
theorem dX1_joinBetween_68 : decode cX1_joinBetween 68 = .ok (.getfield 25, 3) := by decide +kernel
theorem dX1_joinBetween_71 : decode cX1_joinBetween 71 = .ok (.invokevirtual 41, 3) := by decide +kernel
theorem dX1_joinBetween_74 : decode cX1_joinBetween 74 = .ok (.iload 6, 2) := by decide +kernel
theorem dX1_joinBetween_76 : decode cX1_joinBetween 76 = .ok (.imul, 1) := by decide +kernel
theorem dX1_joinBetween_77 : decode cX1_joinBetween 77 = .ok (.istore 10, 2) := by decide +kernel
theorem dX1_joinBetween_79 : decode cX1_joinBetween 79 = .ok (.aload_n 3, 1) := by decide +kernel
theorem dX1_joinBetween_80 : decode cX1_joinBetween 80 = .ok (.aload_n 2, 1) := by decide +kernel
theorem dX1_joinBetween_81 : decode cX1_joinBetween 81 = .ok (.getfield 25, 3) := by decide +kernel
theorem dX1_joinBetween_84 : decode cX1_joinBetween 84 = .ok (.invokevirtual 41, 3) := by decide +kernel
theorem dX1_joinBetween_87 : decode cX1_joinBetween 87 = .ok (.iload 6, 2) := by decide +kernel
theorem dX1_joinBetween_89 : decode cX1_joinBetween 89 = .ok (.imul, 1) := by decide +kernel
theorem dX1_joinBetween_90 : decode cX1_joinBetween 90 = .ok (.istore 11, 2) := by decide +kernel
theorem dX1_joinBetween_92 : decode cX1_joinBetween 92 = .ok (.iconst 0, 1) := by decide +kernel
theorem dX1_joinBetween_93 : decode cX1_joinBetween 93 = .ok (.istore 12, 2) := by decide +kernel
theorem dX1_joinBetween_95 : decode cX1_joinBetween 95 = .ok (.iload 12, 2) := by decide +kernel
theorem dX1_joinBetween_97 : decode cX1_joinBetween 97 = .ok (.iload 7, 2) := by decide +kernel
theorem dX1_joinBetween_99 : decode cX1_joinBetween 99 = .ok (.if_icmp .ge 51, 3) := by decide +kernel
theorem dX1_joinBetween_102 : decode cX1_joinBetween 102 = .ok (.iconst 0, 1) := by decide +kernel
theorem dX1_joinBetween_103 : decode cX1_joinBetween 103 = .ok (.istore 13, 2) := by decide +kernel
theorem dX1_joinBetween_105 : decode cX1_joinBetween 105 = .ok (.iload 13, 2) := by decide +kernel
theorem dX1_joinBetween_107 : decode cX1_joinBetween 107 = .ok (.iload 6, 2) := by decide +kernel
theorem dX1_joinBetween_109 : decode cX1_joinBetween 109 = .ok (.if_icmp .ge 35, 3) := by decide +kernel
theorem dX1_joinBetween_112 : decode cX1_joinBetween 112 = .ok (.aload_n 0, 1) := by decide +kernel
theorem dX1_joinBetween_113 : decode cX1_joinBetween 113 = .ok (.iload 8, 2) := by decide +kernel
theorem dX1_joinBetween_115 : decode cX1_joinBetween 115 = .ok (.iload 12, 2) := by decide +kernel
theorem dX1_joinBetween_117 : decode cX1_joinBetween 117 = .ok (.iload 10, 2) := by decide +kernel
theorem dX1_joinBetween_119 : decode cX1_joinBetween 119 = .ok (.imul, 1) := by decide +kernel
theorem dX1_joinBetween_120 : decode cX1_joinBetween 120 = .ok (.iadd, 1) := by decide +kernel
theorem dX1_joinBetween_121 : decode cX1_joinBetween 121 = .ok (.iload 13, 2) := by decide +kernel
theorem dX1_joinBetween_123 : decode cX1_joinBetween 123 = .ok (.iadd, 1) := by decide +kernel
theorem dX1_joinBetween_124 : decode cX1_joinBetween 124 = .ok (.iload 9, 2) := by decide +kernel
theorem dX1_joinBetween_126 : decode cX1_joinBetween 126 = .ok (.iload 12, 2) := by decide +kernel
theorem dX1_joinBetween_128 : decode cX1_joinBetween 128 = .ok (.iload 11, 2) := by decide +kernel
theorem dX1_joinBetween_130 : decode cX1_joinBetween 130 = .ok (.imul, 1) := by decide +kernel
theorem dX1_joinBetween_131 : decode cX1_joinBetween 131 = .ok (.iadd, 1) := by decide +kernel
theorem dX1_joinBetween_132 : decode cX1_joinBetween 132 = .ok (.iload 13, 2) := by decide +kernel
theorem dX1_joinBetween_134 : decode cX1_joinBetween 134 = .ok (.iadd, 1) := by decide +kernel
theorem dX1_joinBetween_135 : decode cX1_joinBetween 135 = .ok (.invokevirtual 54, 3) := by decide +kernel
theorem dX1_joinBetween_138 : decode cX1_joinBetween 138 = .ok (.iinc 13 1, 3) := by decide +kernel
theorem dX1_joinBetween_141 : decode cX1_joinBetween 141 = .ok (.goto (-36), 3) := by decide +kernel
theorem dX1_joinBetween_144 : decode cX1_joinBetween 144 = .ok (.iinc 12 1, 3) := by decide +kernel
theorem dX1_joinBetween_147 : decode cX1_joinBetween 147 = .ok (.goto (-52), 3) := by decide +kernel
theorem dX1_joinBetween_150 : decode cX1_joinBetween 150 = .ok (.return_, 1) := by decide +kernel
set_option maxRecDepth 20000 in
theorem ggX1_joinByLaw_X10_isSame : GoodIn wsX1_joinByLaw wsX10_isSame := goodIn_r _ [10, 11, 12, 47, 48] (by decide +kernel) (by decide +kernel)
set_option maxRecDepth 20000 in
theorem gX1_joinByLaw_X10_isSame : GoodIn wsX1_joinByLaw (wsV RX1 33 RX10 yX10_isSame wsX10_isSame) := goodIn_app (goodIn_of _ (by decide +kernel)) ggX1_joinByLaw_X10_isSame
set_option maxRecDepth 20000 in
theorem ggX1_joinByLaw_X1_joinBetween : GoodIn wsX1_joinByLaw wsX1_joinBetween := goodIn_r _ [17, 1, 18, 19, 20, 21, 22, 23, 24, 25, 26, 27, 28, 29, 30, 31, 32, 33, 34, 35, 36, 37, 38, 39, 16, 40, 41, 42, 43, 44, 45, 46, 47, 48, 49, 50, 51, 52, 53, 54, 55] rfl (by decide +kernel)
set_option maxRecDepth 20000 in
theorem gX1_joinByLaw_X1_joinBetween : GoodIn wsX1_joinByLaw (wsV RX1 37 RX1 yX1_joinBetween wsX1_joinBetween) := goodIn_app (goodIn_of _ (by decide +kernel)) ggX1_joinByLaw_X1_joinBetween
theorem dX1_joinByLaw_0 : decode cX1_joinByLaw 0 = .ok (.iload 4, 2) := by decide +kernel
theorem dX1_joinByLaw_2 : decode cX1_joinByLaw 2 = .ok (.aload_n 1, 1) := by decide +kernel
theorem dX1_joinByLaw_3 : decode cX1_joinByLaw 3 = .ok (.getfield 25, 3) := by decide +kernel
theorem dX1_joinByLaw_6 : decode cX1_joinByLaw 6 = .ok (.aload_n 2, 1) := by decide +kernel
theorem dX1_joinByLaw_7 : decode cX1_joinByLaw 7 = .ok (.getfield 25, 3) := by decide +kernel
theorem dX1_joinByLaw_10 : decode cX1_joinByLaw 10 = .ok (.invokestatic 30, 3) := by decide +kernel
theorem dX1_joinByLaw_13 : decode cX1_joinByLaw 13 = .ok (.isub, 1) := by decide +kernel
theorem dX1_joinByLaw_14 : decode cX1_joinByLaw 14 = .ok (.istore 5, 2) := by decide +kernel
theorem dX1_joinByLaw_16 : decode cX1_joinByLaw 16 = .ok (.aload_n 1, 1) := by decide +kernel
theorem dX1_joinByLaw_17 : decode cX1_joinByLaw 17 = .ok (.aload_n 2, 1) := by decide +kernel
theorem dX1_joinByLaw_18 : decode cX1_joinByLaw 18 = .ok (.invokevirtual 33, 3) := by decide +kernel
theorem dX1_joinByLaw_21 : decode cX1_joinByLaw 21 = .ok (.ifCond .eq 4, 3) := by decide +kernel
theorem dX1_joinByLaw_24 : decode cX1_joinByLaw 24 = .ok (.return_, 1) := by decide +kernel
theorem dX1_joinByLaw_25 : decode cX1_joinByLaw 25 = .ok (.iconst 0, 1) := by decide +kernel
theorem dX1_joinByLaw_26 : decode cX1_joinByLaw 26 = .ok (.istore 6, 2) := by decide +kernel
theorem dX1_joinByLaw_28 : decode cX1_joinByLaw 28 = .ok (.iload 6, 2) := by decide +kernel
theorem dX1_joinByLaw_30 : decode cX1_joinByLaw 30 = .ok (.iload 5, 2) := by decide +kernel
theorem dX1_joinByLaw_32 : decode cX1_joinByLaw 32 = .ok (.if_icmp .gt 39, 3) := by decide +kernel
theorem dX1_joinByLaw_35 : decode cX1_joinByLaw 35 = .ok (.iconst 0, 1) := by decide +kernel
theorem dX1_joinByLaw_36 : decode cX1_joinByLaw 36 = .ok (.istore 7, 2) := by decide +kernel
theorem dX1_joinByLaw_38 : decode cX1_joinByLaw 38 = .ok (.iload 7, 2) := by decide +kernel
theorem dX1_joinByLaw_40 : decode cX1_joinByLaw 40 = .ok (.iload 6, 2) := by decide +kernel
theorem dX1_joinByLaw_42 : decode cX1_joinByLaw 42 = .ok (.iadd, 1) := by decide +kernel
theorem dX1_joinByLaw_43 : decode cX1_joinByLaw 43 = .ok (.iload 5, 2) := by decide +kernel
theorem dX1_joinByLaw_45 : decode cX1_joinByLaw 45 = .ok (.if_icmp .gt 20, 3) := by decide +kernel
theorem dX1_joinByLaw_48 : decode cX1_joinByLaw 48 = .ok (.aload_n 0, 1) := by decide +kernel
theorem dX1_joinByLaw_49 : decode cX1_joinByLaw 49 = .ok (.aload_n 1, 1) := by decide +kernel
theorem dX1_joinByLaw_50 : decode cX1_joinByLaw 50 = .ok (.aload_n 2, 1) := by decide +kernel
theorem dX1_joinByLaw_51 : decode cX1_joinByLaw 51 = .ok (.aload_n 3, 1) := by decide +kernel
theorem dX1_joinByLaw_52 : decode cX1_joinByLaw 52 = .ok (.iload 7, 2) := by decide +kernel
theorem dX1_joinByLaw_54 : decode cX1_joinByLaw 54 = .ok (.iload 6, 2) := by decide +kernel
theorem dX1_joinByLaw_56 : decode cX1_joinByLaw 56 = .ok (.invokevirtual 37, 3) := by decide +kernel
theorem dX1_joinByLaw_59 : decode cX1_joinByLaw 59 = .ok (.iinc 7 1, 3) := by decide +kernel
theorem dX1_joinByLaw_62 : decode cX1_joinByLaw 62 = .ok (.goto (-24), 3) := by decide +kernel
theorem dX1_joinByLaw_65 : decode cX1_joinByLaw 65 = .ok (.iinc 6 1, 3) := by decide +kernel
theorem dX1_joinByLaw_68 : decode cX1_joinByLaw 68 = .ok (.goto (-40), 3) := by decide +kernel
theorem dX1_joinByLaw_71 : decode cX1_joinByLaw 71 = .ok (.return_, 1) := by decide +kernel
theorem dX1_leastOf_0 : decode cX1_leastOf 0 = .ok (.iload_n 1, 1) := by decide +kernel
theorem dX1_leastOf_1 : decode cX1_leastOf 1 = .ok (.ifCond .lt 11, 3) := by decide +kernel
theorem dX1_leastOf_4 : decode cX1_leastOf 4 = .ok (.iload_n 1, 1) := by decide +kernel
theorem dX1_leastOf_5 : decode cX1_leastOf 5 = .ok (.aload_n 0, 1) := by decide +kernel
theorem dX1_leastOf_6 : decode cX1_leastOf 6 = .ok (.getfield 21, 3) := by decide +kernel
theorem dX1_leastOf_9 : decode cX1_leastOf 9 = .ok (.if_icmp .lt 5, 3) := by decide +kernel
theorem dX1_leastOf_12 : decode cX1_leastOf 12 = .ok (.iconst 0, 1) := by decide +kernel
theorem dX1_leastOf_13 : decode cX1_leastOf 13 = .ok (.ireturn, 1) := by decide +kernel
theorem dX1_leastOf_14 : decode cX1_leastOf 14 = .ok (.iload_n 1, 1) := by decide +kernel
theorem dX1_leastOf_15 : decode cX1_leastOf 15 = .ok (.istore_n 2, 1) := by decide +kernel
theorem dX1_leastOf_16 : decode cX1_leastOf 16 = .ok (.iconst 0, 1) := by decide +kernel
theorem dX1_leastOf_17 : decode cX1_leastOf 17 = .ok (.istore_n 3, 1) := by decide +kernel
theorem dX1_leastOf_18 : decode cX1_leastOf 18 = .ok (.iload_n 3, 1) := by decide +kernel
theorem dX1_leastOf_19 : decode cX1_leastOf 19 = .ok (.aload_n 0, 1) := by decide +kernel
theorem dX1_leastOf_20 : decode cX1_leastOf 20 = .ok (.getfield 21, 3) := by decide +kernel
theorem dX1_leastOf_23 : decode cX1_leastOf 23 = .ok (.if_icmp .ge 43, 3) := by decide +kernel
theorem dX1_leastOf_26 : decode cX1_leastOf 26 = .ok (.aload_n 0, 1) := by decide +kernel
theorem dX1_leastOf_27 : decode cX1_leastOf 27 = .ok (.getfield 9, 3) := by decide +kernel
theorem dX1_leastOf_30 : decode cX1_leastOf 30 = .ok (.iload_n 2, 1) := by decide +kernel
theorem dX1_leastOf_31 : decode cX1_leastOf 31 = .ok (.iaload, 1) := by decide +kernel
theorem dX1_leastOf_32 : decode cX1_leastOf 32 = .ok (.iload_n 2, 1) := by decide +kernel
theorem dX1_leastOf_33 : decode cX1_leastOf 33 = .ok (.if_icmp .eq 33, 3) := by decide +kernel
theorem dX1_leastOf_36 : decode cX1_leastOf 36 = .ok (.aload_n 0, 1) := by decide +kernel
theorem dX1_leastOf_37 : decode cX1_leastOf 37 = .ok (.getfield 9, 3) := by decide +kernel
theorem dX1_leastOf_40 : decode cX1_leastOf 40 = .ok (.iload_n 2, 1) := by decide +kernel
theorem dX1_leastOf_41 : decode cX1_leastOf 41 = .ok (.aload_n 0, 1) := by decide +kernel
theorem dX1_leastOf_42 : decode cX1_leastOf 42 = .ok (.getfield 9, 3) := by decide +kernel
theorem dX1_leastOf_45 : decode cX1_leastOf 45 = .ok (.aload_n 0, 1) := by decide +kernel
theorem dX1_leastOf_46 : decode cX1_leastOf 46 = .ok (.getfield 9, 3) := by decide +kernel
theorem dX1_leastOf_49 : decode cX1_leastOf 49 = .ok (.iload_n 2, 1) := by decide +kernel
theorem dX1_leastOf_50 : decode cX1_leastOf 50 = .ok (.iaload, 1) := by decide +kernel
theorem dX1_leastOf_51 : decode cX1_leastOf 51 = .ok (.iaload, 1) := by decide +kernel
theorem dX1_leastOf_52 : decode cX1_leastOf 52 = .ok (.iastore, 1) := by decide +kernel
theorem dX1_leastOf_53 : decode cX1_leastOf 53 = .ok (.aload_n 0, 1) := by decide +kernel
theorem dX1_leastOf_54 : decode cX1_leastOf 54 = .ok (.getfield 9, 3) := by decide +kernel
theorem dX1_leastOf_57 : decode cX1_leastOf 57 = .ok (.iload_n 2, 1) := by decide +kernel
theorem dX1_leastOf_58 : decode cX1_leastOf 58 = .ok (.iaload, 1) := by decide +kernel
theorem dX1_leastOf_59 : decode cX1_leastOf 59 = .ok (.istore_n 2, 1) := by decide +kernel
theorem dX1_leastOf_60 : decode cX1_leastOf 60 = .ok (.iinc 3 1, 3) := by decide +kernel
theorem dX1_leastOf_63 : decode cX1_leastOf 63 = .ok (.goto (-45), 3) := by decide +kernel
theorem dX1_leastOf_66 : decode cX1_leastOf 66 = .ok (.iload_n 2, 1) := by decide +kernel
theorem dX1_leastOf_67 : decode cX1_leastOf 67 = .ok (.ireturn, 1) := by decide +kernel
theorem dX1_settle_0 : decode cX1_settle 0 = .ok (.aload_n 0, 1) := by decide +kernel
theorem dX1_settle_1 : decode cX1_settle 1 = .ok (.iconst 0, 1) := by decide +kernel
theorem dX1_settle_2 : decode cX1_settle 2 = .ok (.putfield 61, 3) := by decide +kernel
theorem dX1_settle_5 : decode cX1_settle 5 = .ok (.iconst 0, 1) := by decide +kernel
theorem dX1_settle_6 : decode cX1_settle 6 = .ok (.istore_n 1, 1) := by decide +kernel
theorem dX1_settle_7 : decode cX1_settle 7 = .ok (.iload_n 1, 1) := by decide +kernel
theorem dX1_settle_8 : decode cX1_settle 8 = .ok (.aload_n 0, 1) := by decide +kernel
theorem dX1_settle_9 : decode cX1_settle 9 = .ok (.getfield 21, 3) := by decide +kernel
theorem dX1_settle_12 : decode cX1_settle 12 = .ok (.if_icmp .ge 46, 3) := by decide +kernel
theorem dX1_settle_15 : decode cX1_settle 15 = .ok (.aload_n 0, 1) := by decide +kernel
theorem dX1_settle_16 : decode cX1_settle 16 = .ok (.getfield 9, 3) := by decide +kernel
theorem dX1_settle_19 : decode cX1_settle 19 = .ok (.iload_n 1, 1) := by decide +kernel
theorem dX1_settle_20 : decode cX1_settle 20 = .ok (.iaload, 1) := by decide +kernel
theorem dX1_settle_21 : decode cX1_settle 21 = .ok (.iload_n 1, 1) := by decide +kernel
theorem dX1_settle_22 : decode cX1_settle 22 = .ok (.if_icmp .ne 13, 3) := by decide +kernel
theorem dX1_settle_25 : decode cX1_settle 25 = .ok (.aload_n 0, 1) := by decide +kernel
theorem dX1_settle_26 : decode cX1_settle 26 = .ok (.dup, 1) := by decide +kernel
theorem dX1_settle_27 : decode cX1_settle 27 = .ok (.getfield 61, 3) := by decide +kernel
theorem dX1_settle_30 : decode cX1_settle 30 = .ok (.iconst 1, 1) := by decide +kernel
theorem dX1_settle_31 : decode cX1_settle 31 = .ok (.iadd, 1) := by decide +kernel
theorem dX1_settle_32 : decode cX1_settle 32 = .ok (.putfield 61, 3) := by decide +kernel
theorem dX1_settle_35 : decode cX1_settle 35 = .ok (.aload_n 0, 1) := by decide +kernel
theorem dX1_settle_36 : decode cX1_settle 36 = .ok (.getfield 9, 3) := by decide +kernel
theorem dX1_settle_39 : decode cX1_settle 39 = .ok (.iload_n 1, 1) := by decide +kernel
theorem dX1_settle_40 : decode cX1_settle 40 = .ok (.aload_n 0, 1) := by decide +kernel
theorem dX1_settle_41 : decode cX1_settle 41 = .ok (.getfield 9, 3) := by decide +kernel
theorem dX1_settle_44 : decode cX1_settle 44 = .ok (.aload_n 0, 1) := by decide +kernel
theorem dX1_settle_45 : decode cX1_settle 45 = .ok (.getfield 9, 3) := by decide +kernel
theorem dX1_settle_48 : decode cX1_settle 48 = .ok (.iload_n 1, 1) := by decide +kernel
theorem dX1_settle_49 : decode cX1_settle 49 = .ok (.iaload, 1) := by decide +kernel
theorem dX1_settle_50 : decode cX1_settle 50 = .ok (.iaload, 1) := by decide +kernel
theorem dX1_settle_51 : decode cX1_settle 51 = .ok (.iastore, 1) := by decide +kernel
theorem dX1_settle_52 : decode cX1_settle 52 = .ok (.iinc 1 1, 3) := by decide +kernel
theorem dX1_settle_55 : decode cX1_settle 55 = .ok (.goto (-48), 3) := by decide +kernel
theorem dX1_settle_58 : decode cX1_settle 58 = .ok (.return_, 1) := by decide +kernel
theorem dX2_begin_0 : decode cX2_begin 0 = .ok (.aload_n 0, 1) := by decide +kernel
theorem dX2_begin_1 : decode cX2_begin 1 = .ok (.iload_n 1, 1) := by decide +kernel
theorem dX2_begin_2 : decode cX2_begin 2 = .ok (.ifCond .eq 9, 3) := by decide +kernel
theorem dX2_begin_5 : decode cX2_begin 5 = .ok (.ldc2_w 34, 3) := by decide +kernel
theorem dX2_begin_8 : decode cX2_begin 8 = .ok (.goto 4, 3) := by decide +kernel
theorem dX2_begin_11 : decode cX2_begin 11 = .ok (.lconst 1, 1) := by decide +kernel
theorem dX2_begin_12 : decode cX2_begin 12 = .ok (.putfield 36, 3) := by decide +kernel
theorem dX2_begin_15 : decode cX2_begin 15 = .ok (.aload_n 0, 1) := by decide +kernel
theorem dX2_begin_16 : decode cX2_begin 16 = .ok (.lconst 1, 1) := by decide +kernel
theorem dX2_begin_17 : decode cX2_begin 17 = .ok (.putfield 40, 3) := by decide +kernel
theorem dX2_begin_20 : decode cX2_begin 20 = .ok (.return_, 1) := by decide +kernel
theorem dX2_drop_0 : decode cX2_drop 0 = .ok (.aload_n 0, 1) := by decide +kernel
theorem dX2_drop_1 : decode cX2_drop 1 = .ok (.getfield 40, 3) := by decide +kernel
theorem dX2_drop_4 : decode cX2_drop 4 = .ok (.lconst 1, 1) := by decide +kernel
theorem dX2_drop_5 : decode cX2_drop 5 = .ok (.lcmp, 1) := by decide +kernel
theorem dX2_drop_6 : decode cX2_drop 6 = .ok (.ifCond .le 16, 3) := by decide +kernel
theorem dX2_drop_9 : decode cX2_drop 9 = .ok (.aload_n 0, 1) := by decide +kernel
theorem dX2_drop_10 : decode cX2_drop 10 = .ok (.dup, 1) := by decide +kernel
theorem dX2_drop_11 : decode cX2_drop 11 = .ok (.getfield 40, 3) := by decide +kernel
theorem dX2_drop_14 : decode cX2_drop 14 = .ok (.iconst 2, 1) := by decide +kernel
theorem dX2_drop_15 : decode cX2_drop 15 = .ok (.lshr, 1) := by decide +kernel
theorem dX2_drop_16 : decode cX2_drop 16 = .ok (.putfield 40, 3) := by decide +kernel
theorem dX2_drop_19 : decode cX2_drop 19 = .ok (.goto 13, 3) := by decide +kernel
theorem dX2_drop_22 : decode cX2_drop 22 = .ok (.aload_n 0, 1) := by decide +kernel
theorem dX2_drop_23 : decode cX2_drop 23 = .ok (.dup, 1) := by decide +kernel
theorem dX2_drop_24 : decode cX2_drop 24 = .ok (.getfield 36, 3) := by decide +kernel
theorem dX2_drop_27 : decode cX2_drop 27 = .ok (.iconst 2, 1) := by decide +kernel
theorem dX2_drop_28 : decode cX2_drop 28 = .ok (.lshr, 1) := by decide +kernel
theorem dX2_drop_29 : decode cX2_drop 29 = .ok (.putfield 36, 3) := by decide +kernel
theorem dX2_drop_32 : decode cX2_drop 32 = .ok (.return_, 1) := by decide +kernel
set_option maxRecDepth 20000 in
theorem ggX2_find_X2_firstPlace : GoodIn wsX2_find wsX2_firstPlace := goodIn_r _ [11, 2, 12, 4, 13, 1, 22, 23, 24, 25, 26, 27, 28] (by decide +kernel) (by decide +kernel)
set_option maxRecDepth 20000 in
theorem gX2_find_X2_firstPlace : GoodIn wsX2_find (wsV RX2 54 RX2 yX2_firstPlace wsX2_firstPlace) := goodIn_app (goodIn_of _ (by decide +kernel)) ggX2_find_X2_firstPlace
set_option maxRecDepth 20000 in
theorem ggX2_find_X10_unpack : GoodIn wsX2_find wsX10_unpack := goodIn_r _ [18, 19, 20, 21, 29, 30] (by decide +kernel) (by decide +kernel)
set_option maxRecDepth 20000 in
theorem gX2_find_X10_unpack : GoodIn wsX2_find (wsV RX2 58 RX10 yX10_unpack wsX10_unpack) := goodIn_app (goodIn_of _ (by decide +kernel)) ggX2_find_X10_unpack
theorem dX2_find_0 : decode cX2_find 0 = .ok (.aload_n 0, 1) := by decide +kernel
theorem dX2_find_1 : decode cX2_find 1 = .ok (.invokevirtual 54, 3) := by decide +kernel
theorem dX2_find_4 : decode cX2_find 4 = .ok (.istore_n 2, 1) := by decide +kernel
theorem dX2_find_5 : decode cX2_find 5 = .ok (.iload_n 2, 1) := by decide +kernel
theorem dX2_find_6 : decode cX2_find 6 = .ok (.istore_n 3, 1) := by decide +kernel
theorem dX2_find_7 : decode cX2_find 7 = .ok (.iload_n 3, 1) := by decide +kernel
theorem dX2_find_8 : decode cX2_find 8 = .ok (.iload_n 2, 1) := by decide +kernel
theorem dX2_find_9 : decode cX2_find 9 = .ok (.iconst 4, 1) := by decide +kernel
theorem dX2_find_10 : decode cX2_find 10 = .ok (.iadd, 1) := by decide +kernel
theorem dX2_find_11 : decode cX2_find 11 = .ok (.if_icmp .ge 64, 3) := by decide +kernel
theorem dX2_find_14 : decode cX2_find 14 = .ok (.iload_n 3, 1) := by decide +kernel
theorem dX2_find_15 : decode cX2_find 15 = .ok (.aload_n 0, 1) := by decide +kernel
theorem dX2_find_16 : decode cX2_find 16 = .ok (.getfield 16, 3) := by decide +kernel
theorem dX2_find_19 : decode cX2_find 19 = .ok (.arraylength, 1) := by decide +kernel
theorem dX2_find_20 : decode cX2_find 20 = .ok (.if_icmp .ge 55, 3) := by decide +kernel
theorem dX2_find_23 : decode cX2_find 23 = .ok (.aload_n 0, 1) := by decide +kernel
theorem dX2_find_24 : decode cX2_find 24 = .ok (.getfield 16, 3) := by decide +kernel
theorem dX2_find_27 : decode cX2_find 27 = .ok (.iload_n 3, 1) := by decide +kernel
theorem dX2_find_28 : decode cX2_find 28 = .ok (.laload, 1) := by decide +kernel
theorem dX2_find_29 : decode cX2_find 29 = .ok (.aload_n 0, 1) := by decide +kernel
theorem dX2_find_30 : decode cX2_find 30 = .ok (.getfield 36, 3) := by decide +kernel
theorem dX2_find_33 : decode cX2_find 33 = .ok (.lcmp, 1) := by decide +kernel
theorem dX2_find_34 : decode cX2_find 34 = .ok (.ifCond .ne 35, 3) := by decide +kernel
theorem dX2_find_37 : decode cX2_find 37 = .ok (.aload_n 0, 1) := by decide +kernel
theorem dX2_find_38 : decode cX2_find 38 = .ok (.getfield 20, 3) := by decide +kernel
theorem dX2_find_41 : decode cX2_find 41 = .ok (.iload_n 3, 1) := by decide +kernel
theorem dX2_find_42 : decode cX2_find 42 = .ok (.laload, 1) := by decide +kernel
theorem dX2_find_43 : decode cX2_find 43 = .ok (.aload_n 0, 1) := by decide +kernel
theorem dX2_find_44 : decode cX2_find 44 = .ok (.getfield 40, 3) := by decide +kernel
theorem dX2_find_47 : decode cX2_find 47 = .ok (.lcmp, 1) := by decide +kernel
theorem dX2_find_48 : decode cX2_find 48 = .ok (.ifCond .ne 21, 3) := by decide +kernel
theorem dX2_find_51 : decode cX2_find 51 = .ok (.aload_n 1, 1) := by decide +kernel
theorem dX2_find_52 : decode cX2_find 52 = .ok (.aload_n 0, 1) := by decide +kernel
theorem dX2_find_53 : decode cX2_find 53 = .ok (.getfield 23, 3) := by decide +kernel
theorem dX2_find_56 : decode cX2_find 56 = .ok (.iload_n 3, 1) := by decide +kernel
theorem dX2_find_57 : decode cX2_find 57 = .ok (.laload, 1) := by decide +kernel
theorem dX2_find_58 : decode cX2_find 58 = .ok (.aload_n 0, 1) := by decide +kernel
theorem dX2_find_59 : decode cX2_find 59 = .ok (.getfield 26, 3) := by decide +kernel
theorem dX2_find_62 : decode cX2_find 62 = .ok (.iload_n 3, 1) := by decide +kernel
theorem dX2_find_63 : decode cX2_find 63 = .ok (.laload, 1) := by decide +kernel
theorem dX2_find_64 : decode cX2_find 64 = .ok (.invokevirtual 58, 3) := by decide +kernel
theorem dX2_find_67 : decode cX2_find 67 = .ok (.iconst 1, 1) := by decide +kernel
theorem dX2_find_68 : decode cX2_find 68 = .ok (.ireturn, 1) := by decide +kernel
theorem dX2_find_69 : decode cX2_find 69 = .ok (.iinc 3 1, 3) := by decide +kernel
theorem dX2_find_72 : decode cX2_find 72 = .ok (.goto (-65), 3) := by decide +kernel
theorem dX2_find_75 : decode cX2_find 75 = .ok (.iconst 0, 1) := by decide +kernel
theorem dX2_find_76 : decode cX2_find 76 = .ok (.ireturn, 1) := by decide +kernel
theorem dX2_firstPlace_0 : decode cX2_firstPlace 0 = .ok (.aload_n 0, 1) := by decide +kernel
theorem dX2_firstPlace_1 : decode cX2_firstPlace 1 = .ok (.getfield 36, 3) := by decide +kernel
theorem dX2_firstPlace_4 : decode cX2_firstPlace 4 = .ok (.ldc2_w 50, 3) := by decide +kernel
theorem dX2_firstPlace_7 : decode cX2_firstPlace 7 = .ok (.lmul, 1) := by decide +kernel
theorem dX2_firstPlace_8 : decode cX2_firstPlace 8 = .ok (.aload_n 0, 1) := by decide +kernel
theorem dX2_firstPlace_9 : decode cX2_firstPlace 9 = .ok (.getfield 40, 3) := by decide +kernel
theorem dX2_firstPlace_12 : decode cX2_firstPlace 12 = .ok (.ladd, 1) := by decide +kernel
theorem dX2_firstPlace_13 : decode cX2_firstPlace 13 = .ok (.ldc2_w 52, 3) := by decide +kernel
theorem dX2_firstPlace_16 : decode cX2_firstPlace 16 = .ok (.lmul, 1) := by decide +kernel
theorem dX2_firstPlace_17 : decode cX2_firstPlace 17 = .ok (.lstore_n 1, 1) := by decide +kernel
theorem dX2_firstPlace_18 : decode cX2_firstPlace 18 = .ok (.lload_n 1, 1) := by decide +kernel
theorem dX2_firstPlace_19 : decode cX2_firstPlace 19 = .ok (.bipush 44, 2) := by decide +kernel
theorem dX2_firstPlace_21 : decode cX2_firstPlace 21 = .ok (.lushr, 1) := by decide +kernel
theorem dX2_firstPlace_22 : decode cX2_firstPlace 22 = .ok (.l2i, 1) := by decide +kernel
theorem dX2_firstPlace_23 : decode cX2_firstPlace 23 = .ok (.aload_n 0, 1) := by decide +kernel
theorem dX2_firstPlace_24 : decode cX2_firstPlace 24 = .ok (.getfield 16, 3) := by decide +kernel
theorem dX2_firstPlace_27 : decode cX2_firstPlace 27 = .ok (.arraylength, 1) := by decide +kernel
theorem dX2_firstPlace_28 : decode cX2_firstPlace 28 = .ok (.iconst 4, 1) := by decide +kernel
theorem dX2_firstPlace_29 : decode cX2_firstPlace 29 = .ok (.isub, 1) := by decide +kernel
theorem dX2_firstPlace_30 : decode cX2_firstPlace 30 = .ok (.iand, 1) := by decide +kernel
theorem dX2_firstPlace_31 : decode cX2_firstPlace 31 = .ok (.ireturn, 1) := by decide +kernel
set_option maxRecDepth 20000 in
theorem ggX2_init_X2_makeRoom : GoodIn wsX2_init wsX2_makeRoom := goodIn_r _ [9, 10, 11, 12, 13, 14, 15, 16, 17, 18, 19, 20, 21, 22] (by decide +kernel) (by decide +kernel)
set_option maxRecDepth 20000 in
theorem gX2_init_X2_makeRoom : GoodIn wsX2_init (wsV RX2 12 RX2 yX2_makeRoom wsX2_makeRoom) := goodIn_app (goodIn_of _ (by decide +kernel)) ggX2_init_X2_makeRoom
theorem dX2_init_0 : decode cX2_init 0 = .ok (.aload_n 0, 1) := by decide +kernel
theorem dX2_init_1 : decode cX2_init 1 = .ok (.invokespecial 3, 3) := by decide +kernel
theorem dX2_init_4 : decode cX2_init 4 = .ok (.aload_n 0, 1) := by decide +kernel
theorem dX2_init_5 : decode cX2_init 5 = .ok (.ldc 11, 2) := by decide +kernel
theorem dX2_init_7 : decode cX2_init 7 = .ok (.invokevirtual 12, 3) := by decide +kernel
theorem dX2_init_10 : decode cX2_init 10 = .ok (.return_, 1) := by decide +kernel
set_option maxRecDepth 20000 in
theorem ggX2_keep_X2_firstPlace : GoodIn wsX2_keep wsX2_firstPlace := goodIn_r _ [12, 2, 13, 4, 14, 1, 23, 24, 25, 26, 27, 28, 29] (by decide +kernel) (by decide +kernel)
set_option maxRecDepth 20000 in
theorem gX2_keep_X2_firstPlace : GoodIn wsX2_keep (wsV RX2 54 RX2 yX2_firstPlace wsX2_firstPlace) := goodIn_app (goodIn_of _ (by decide +kernel)) ggX2_keep_X2_firstPlace
set_option maxRecDepth 20000 in
theorem ggX2_keep_X10_pack : GoodIn wsX2_keep wsX10_pack := goodIn_r _ [19, 20, 21, 22, 30, 31] (by decide +kernel) (by decide +kernel)
set_option maxRecDepth 20000 in
theorem gX2_keep_X10_pack : GoodIn wsX2_keep (wsV RX2 62 RX10 yX10_pack wsX10_pack) := goodIn_app (goodIn_of _ (by decide +kernel)) ggX2_keep_X10_pack
theorem dX2_keep_0 : decode cX2_keep 0 = .ok (.aload_n 0, 1) := by decide +kernel
theorem dX2_keep_1 : decode cX2_keep 1 = .ok (.invokevirtual 54, 3) := by decide +kernel
theorem dX2_keep_4 : decode cX2_keep 4 = .ok (.istore 4, 2) := by decide +kernel
theorem dX2_keep_6 : decode cX2_keep 6 = .ok (.iload 4, 2) := by decide +kernel
theorem dX2_keep_8 : decode cX2_keep 8 = .ok (.istore 5, 2) := by decide +kernel
theorem dX2_keep_10 : decode cX2_keep 10 = .ok (.iload 4, 2) := by decide +kernel
theorem dX2_keep_12 : decode cX2_keep 12 = .ok (.istore 6, 2) := by decide +kernel
theorem dX2_keep_14 : decode cX2_keep 14 = .ok (.iload 6, 2) := by decide +kernel
theorem dX2_keep_16 : decode cX2_keep 16 = .ok (.iload 4, 2) := by decide +kernel
theorem dX2_keep_18 : decode cX2_keep 18 = .ok (.iconst 4, 1) := by decide +kernel
theorem dX2_keep_19 : decode cX2_keep 19 = .ok (.iadd, 1) := by decide +kernel
theorem dX2_keep_20 : decode cX2_keep 20 = .ok (.if_icmp .ge 126, 3) := by decide +kernel
theorem dX2_keep_23 : decode cX2_keep 23 = .ok (.iload 6, 2) := by decide +kernel
theorem dX2_keep_25 : decode cX2_keep 25 = .ok (.aload_n 0, 1) := by decide +kernel
theorem dX2_keep_26 : decode cX2_keep 26 = .ok (.getfield 16, 3) := by decide +kernel
theorem dX2_keep_29 : decode cX2_keep 29 = .ok (.arraylength, 1) := by decide +kernel
theorem dX2_keep_30 : decode cX2_keep 30 = .ok (.if_icmp .ge 116, 3) := by decide +kernel
theorem dX2_keep_33 : decode cX2_keep 33 = .ok (.aload_n 0, 1) := by decide +kernel
theorem dX2_keep_34 : decode cX2_keep 34 = .ok (.getfield 16, 3) := by decide +kernel
theorem dX2_keep_37 : decode cX2_keep 37 = .ok (.iload 6, 2) := by decide +kernel
theorem dX2_keep_39 : decode cX2_keep 39 = .ok (.laload, 1) := by decide +kernel
theorem dX2_keep_40 : decode cX2_keep 40 = .ok (.lconst 0, 1) := by decide +kernel
theorem dX2_keep_41 : decode cX2_keep 41 = .ok (.lcmp, 1) := by decide +kernel
theorem dX2_keep_42 : decode cX2_keep 42 = .ok (.ifCond .eq 33, 3) := by decide +kernel
theorem dX2_keep_45 : decode cX2_keep 45 = .ok (.aload_n 0, 1) := by decide +kernel
theorem dX2_keep_46 : decode cX2_keep 46 = .ok (.getfield 16, 3) := by decide +kernel
theorem dX2_keep_49 : decode cX2_keep 49 = .ok (.iload 6, 2) := by decide +kernel
theorem dX2_keep_51 : decode cX2_keep 51 = .ok (.laload, 1) := by decide +kernel
theorem dX2_keep_52 : decode cX2_keep 52 = .ok (.aload_n 0, 1) := by decide +kernel
theorem dX2_keep_53 : decode cX2_keep 53 = .ok (.getfield 36, 3) := by decide +kernel
theorem dX2_keep_56 : decode cX2_keep 56 = .ok (.lcmp, 1) := by decide +kernel
theorem dX2_keep_57 : decode cX2_keep 57 = .ok (.ifCond .ne 25, 3) := by decide +kernel
theorem dX2_keep_60 : decode cX2_keep 60 = .ok (.aload_n 0, 1) := by decide +kernel
theorem dX2_keep_61 : decode cX2_keep 61 = .ok (.getfield 20, 3) := by decide +kernel
theorem dX2_keep_64 : decode cX2_keep 64 = .ok (.iload 6, 2) := by decide +kernel
theorem dX2_keep_66 : decode cX2_keep 66 = .ok (.laload, 1) := by decide +kernel
theorem dX2_keep_67 : decode cX2_keep 67 = .ok (.aload_n 0, 1) := by decide +kernel
theorem dX2_keep_68 : decode cX2_keep 68 = .ok (.getfield 40, 3) := by decide +kernel
theorem dX2_keep_71 : decode cX2_keep 71 = .ok (.lcmp, 1) := by decide +kernel
theorem dX2_keep_72 : decode cX2_keep 72 = .ok (.ifCond .ne 10, 3) := by decide +kernel
theorem dX2_keep_75 : decode cX2_keep 75 = .ok (.iload 6, 2) := by decide +kernel
theorem dX2_keep_77 : decode cX2_keep 77 = .ok (.istore 5, 2) := by decide +kernel
theorem dX2_keep_79 : decode cX2_keep 79 = .ok (.goto 67, 3) := by decide +kernel
theorem dX2_keep_82 : decode cX2_keep 82 = .ok (.aload_n 0, 1) := by decide +kernel
theorem dX2_keep_83 : decode cX2_keep 83 = .ok (.getfield 20, 3) := by decide +kernel
theorem dX2_keep_86 : decode cX2_keep 86 = .ok (.iload 6, 2) := by decide +kernel
theorem dX2_keep_88 : decode cX2_keep 88 = .ok (.laload, 1) := by decide +kernel
theorem dX2_keep_89 : decode cX2_keep 89 = .ok (.aload_n 0, 1) := by decide +kernel
theorem dX2_keep_90 : decode cX2_keep 90 = .ok (.getfield 20, 3) := by decide +kernel
theorem dX2_keep_93 : decode cX2_keep 93 = .ok (.iload 5, 2) := by decide +kernel
theorem dX2_keep_95 : decode cX2_keep 95 = .ok (.laload, 1) := by decide +kernel
theorem dX2_keep_96 : decode cX2_keep 96 = .ok (.lcmp, 1) := by decide +kernel
theorem dX2_keep_97 : decode cX2_keep 97 = .ok (.ifCond .gt 39, 3) := by decide +kernel
theorem dX2_keep_100 : decode cX2_keep 100 = .ok (.aload_n 0, 1) := by decide +kernel
theorem dX2_keep_101 : decode cX2_keep 101 = .ok (.getfield 20, 3) := by decide +kernel
theorem dX2_keep_104 : decode cX2_keep 104 = .ok (.iload 6, 2) := by decide +kernel
theorem dX2_keep_106 : decode cX2_keep 106 = .ok (.laload, 1) := by decide +kernel
theorem dX2_keep_107 : decode cX2_keep 107 = .ok (.aload_n 0, 1) := by decide +kernel
theorem dX2_keep_108 : decode cX2_keep 108 = .ok (.getfield 20, 3) := by decide +kernel
theorem dX2_keep_111 : decode cX2_keep 111 = .ok (.iload 5, 2) := by decide +kernel
theorem dX2_keep_113 : decode cX2_keep 113 = .ok (.laload, 1) := by decide +kernel
theorem dX2_keep_114 : decode cX2_keep 114 = .ok (.lcmp, 1) := by decide +kernel
theorem dX2_keep_115 : decode cX2_keep 115 = .ok (.ifCond .ne 25, 3) := by decide +kernel
theorem dX2_keep_118 : decode cX2_keep 118 = .ok (.aload_n 0, 1) := by decide +kernel
theorem dX2_keep_119 : decode cX2_keep 119 = .ok (.getfield 16, 3) := by decide +kernel
theorem dX2_keep_122 : decode cX2_keep 122 = .ok (.iload 6, 2) := by decide +kernel
theorem dX2_keep_124 : decode cX2_keep 124 = .ok (.laload, 1) := by decide +kernel
theorem dX2_keep_125 : decode cX2_keep 125 = .ok (.aload_n 0, 1) := by decide +kernel
theorem dX2_keep_126 : decode cX2_keep 126 = .ok (.getfield 16, 3) := by decide +kernel
theorem dX2_keep_129 : decode cX2_keep 129 = .ok (.iload 5, 2) := by decide +kernel
theorem dX2_keep_131 : decode cX2_keep 131 = .ok (.laload, 1) := by decide +kernel
theorem dX2_keep_132 : decode cX2_keep 132 = .ok (.lcmp, 1) := by decide +kernel
theorem dX2_keep_133 : decode cX2_keep 133 = .ok (.ifCond .le 7, 3) := by decide +kernel
theorem dX2_keep_136 : decode cX2_keep 136 = .ok (.iload 6, 2) := by decide +kernel
theorem dX2_keep_138 : decode cX2_keep 138 = .ok (.istore 5, 2) := by decide +kernel
theorem dX2_keep_140 : decode cX2_keep 140 = .ok (.iinc 6 1, 3) := by decide +kernel
theorem dX2_keep_143 : decode cX2_keep 143 = .ok (.goto (-129), 3) := by decide +kernel
theorem dX2_keep_146 : decode cX2_keep 146 = .ok (.aload_n 0, 1) := by decide +kernel
theorem dX2_keep_147 : decode cX2_keep 147 = .ok (.getfield 16, 3) := by decide +kernel
theorem dX2_keep_150 : decode cX2_keep 150 = .ok (.iload 5, 2) := by decide +kernel
theorem dX2_keep_152 : decode cX2_keep 152 = .ok (.aload_n 0, 1) := by decide +kernel
theorem dX2_keep_153 : decode cX2_keep 153 = .ok (.getfield 36, 3) := by decide +kernel
theorem dX2_keep_156 : decode cX2_keep 156 = .ok (.lastore, 1) := by decide +kernel
theorem dX2_keep_157 : decode cX2_keep 157 = .ok (.aload_n 0, 1) := by decide +kernel
theorem dX2_keep_158 : decode cX2_keep 158 = .ok (.getfield 20, 3) := by decide +kernel
theorem dX2_keep_161 : decode cX2_keep 161 = .ok (.iload 5, 2) := by decide +kernel
theorem dX2_keep_163 : decode cX2_keep 163 = .ok (.aload_n 0, 1) := by decide +kernel
theorem dX2_keep_164 : decode cX2_keep 164 = .ok (.getfield 40, 3) := by decide +kernel
theorem dX2_keep_167 : decode cX2_keep 167 = .ok (.lastore, 1) := by decide +kernel
theorem dX2_keep_168 : decode cX2_keep 168 = .ok (.aload_n 0, 1) := by decide +kernel
theorem dX2_keep_169 : decode cX2_keep 169 = .ok (.getfield 23, 3) := by decide +kernel
theorem dX2_keep_172 : decode cX2_keep 172 = .ok (.iload 5, 2) := by decide +kernel
theorem dX2_keep_174 : decode cX2_keep 174 = .ok (.aload_n 1, 1) := by decide +kernel
theorem dX2_keep_175 : decode cX2_keep 175 = .ok (.iload_n 2, 1) := by decide +kernel
theorem dX2_keep_176 : decode cX2_keep 176 = .ok (.iload_n 3, 1) := by decide +kernel
theorem dX2_keep_177 : decode cX2_keep 177 = .ok (.invokevirtual 62, 3) := by decide +kernel
theorem dX2_keep_180 : decode cX2_keep 180 = .ok (.lastore, 1) := by decide +kernel
theorem dX2_keep_181 : decode cX2_keep 181 = .ok (.aload_n 0, 1) := by decide +kernel
theorem dX2_keep_182 : decode cX2_keep 182 = .ok (.getfield 26, 3) := by decide +kernel
theorem dX2_keep_185 : decode cX2_keep 185 = .ok (.iload 5, 2) := by decide +kernel
theorem dX2_keep_187 : decode cX2_keep 187 = .ok (.aload_n 1, 1) := by decide +kernel
theorem dX2_keep_188 : decode cX2_keep 188 = .ok (.iload_n 2, 1) := by decide +kernel
theorem dX2_keep_189 : decode cX2_keep 189 = .ok (.bipush 30, 2) := by decide +kernel
theorem dX2_keep_191 : decode cX2_keep 191 = .ok (.iadd, 1) := by decide +kernel
theorem dX2_keep_192 : decode cX2_keep 192 = .ok (.iload_n 3, 1) := by decide +kernel
theorem dX2_keep_193 : decode cX2_keep 193 = .ok (.invokevirtual 62, 3) := by decide +kernel
theorem dX2_keep_196 : decode cX2_keep 196 = .ok (.lastore, 1) := by decide +kernel
theorem dX2_keep_197 : decode cX2_keep 197 = .ok (.aload_n 0, 1) := by decide +kernel
theorem dX2_keep_198 : decode cX2_keep 198 = .ok (.iconst 0, 1) := by decide +kernel
theorem dX2_keep_199 : decode cX2_keep 199 = .ok (.putfield 29, 3) := by decide +kernel
theorem dX2_keep_202 : decode cX2_keep 202 = .ok (.return_, 1) := by decide +kernel
theorem dX2_makeRoom_0 : decode cX2_makeRoom 0 = .ok (.aload_n 0, 1) := by decide +kernel
theorem dX2_makeRoom_1 : decode cX2_makeRoom 1 = .ok (.iload_n 1, 1) := by decide +kernel
theorem dX2_makeRoom_2 : decode cX2_makeRoom 2 = .ok (.newarray .long, 2) := by decide +kernel
theorem dX2_makeRoom_4 : decode cX2_makeRoom 4 = .ok (.putfield 16, 3) := by decide +kernel
theorem dX2_makeRoom_7 : decode cX2_makeRoom 7 = .ok (.aload_n 0, 1) := by decide +kernel
theorem dX2_makeRoom_8 : decode cX2_makeRoom 8 = .ok (.iload_n 1, 1) := by decide +kernel
theorem dX2_makeRoom_9 : decode cX2_makeRoom 9 = .ok (.newarray .long, 2) := by decide +kernel
theorem dX2_makeRoom_11 : decode cX2_makeRoom 11 = .ok (.putfield 20, 3) := by decide +kernel
theorem dX2_makeRoom_14 : decode cX2_makeRoom 14 = .ok (.aload_n 0, 1) := by decide +kernel
theorem dX2_makeRoom_15 : decode cX2_makeRoom 15 = .ok (.iload_n 1, 1) := by decide +kernel
theorem dX2_makeRoom_16 : decode cX2_makeRoom 16 = .ok (.newarray .long, 2) := by decide +kernel
theorem dX2_makeRoom_18 : decode cX2_makeRoom 18 = .ok (.putfield 23, 3) := by decide +kernel
theorem dX2_makeRoom_21 : decode cX2_makeRoom 21 = .ok (.aload_n 0, 1) := by decide +kernel
theorem dX2_makeRoom_22 : decode cX2_makeRoom 22 = .ok (.iload_n 1, 1) := by decide +kernel
theorem dX2_makeRoom_23 : decode cX2_makeRoom 23 = .ok (.newarray .long, 2) := by decide +kernel
theorem dX2_makeRoom_25 : decode cX2_makeRoom 25 = .ok (.putfield 26, 3) := by decide +kernel
theorem dX2_makeRoom_28 : decode cX2_makeRoom 28 = .ok (.aload_n 0, 1) := by decide +kernel
theorem dX2_makeRoom_29 : decode cX2_makeRoom 29 = .ok (.iconst 1, 1) := by decide +kernel
theorem dX2_makeRoom_30 : decode cX2_makeRoom 30 = .ok (.putfield 29, 3) := by decide +kernel
theorem dX2_makeRoom_33 : decode cX2_makeRoom 33 = .ok (.return_, 1) := by decide +kernel
theorem dX2_push_0 : decode cX2_push 0 = .ok (.aload_n 0, 1) := by decide +kernel
theorem dX2_push_1 : decode cX2_push 1 = .ok (.getfield 36, 3) := by decide +kernel
theorem dX2_push_4 : decode cX2_push 4 = .ok (.ldc2_w 43, 3) := by decide +kernel
theorem dX2_push_7 : decode cX2_push 7 = .ok (.lcmp, 1) := by decide +kernel
theorem dX2_push_8 : decode cX2_push 8 = .ok (.ifCond .ge 21, 3) := by decide +kernel
theorem dX2_push_11 : decode cX2_push 11 = .ok (.aload_n 0, 1) := by decide +kernel
theorem dX2_push_12 : decode cX2_push 12 = .ok (.aload_n 0, 1) := by decide +kernel
theorem dX2_push_13 : decode cX2_push 13 = .ok (.getfield 36, 3) := by decide +kernel
theorem dX2_push_16 : decode cX2_push 16 = .ok (.ldc2_w 45, 3) := by decide +kernel
theorem dX2_push_19 : decode cX2_push 19 = .ok (.lmul, 1) := by decide +kernel
theorem dX2_push_20 : decode cX2_push 20 = .ok (.iload_n 1, 1) := by decide +kernel
theorem dX2_push_21 : decode cX2_push 21 = .ok (.i2l, 1) := by decide +kernel
theorem dX2_push_22 : decode cX2_push 22 = .ok (.ladd, 1) := by decide +kernel
theorem dX2_push_23 : decode cX2_push 23 = .ok (.putfield 36, 3) := by decide +kernel
theorem dX2_push_26 : decode cX2_push 26 = .ok (.goto 18, 3) := by decide +kernel
theorem dX2_push_29 : decode cX2_push 29 = .ok (.aload_n 0, 1) := by decide +kernel
theorem dX2_push_30 : decode cX2_push 30 = .ok (.aload_n 0, 1) := by decide +kernel
theorem dX2_push_31 : decode cX2_push 31 = .ok (.getfield 40, 3) := by decide +kernel
theorem dX2_push_34 : decode cX2_push 34 = .ok (.ldc2_w 45, 3) := by decide +kernel
theorem dX2_push_37 : decode cX2_push 37 = .ok (.lmul, 1) := by decide +kernel
theorem dX2_push_38 : decode cX2_push 38 = .ok (.iload_n 1, 1) := by decide +kernel
theorem dX2_push_39 : decode cX2_push 39 = .ok (.i2l, 1) := by decide +kernel
theorem dX2_push_40 : decode cX2_push 40 = .ok (.ladd, 1) := by decide +kernel
theorem dX2_push_41 : decode cX2_push 41 = .ok (.putfield 40, 3) := by decide +kernel
theorem dX2_push_44 : decode cX2_push 44 = .ok (.return_, 1) := by decide +kernel
