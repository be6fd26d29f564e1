theorem dX0_await_0 : decode cX0_await 0 = .ok (.aload_n 0, 1) := by decide +kernel
theorem dX0_await_1 : decode cX0_await 1 = .ok (.getfield 51, 3) := by decide +kernel
theorem dX0_await_4 : decode cX0_await 4 = .ok (.aload_n 0, 1) := by decide +kernel
theorem dX0_await_5 : decode cX0_await 5 = .ok (.getfield 72, 3) := by decide +kernel
theorem dX0_await_8 : decode cX0_await 8 = .ok (.iload_n 1, 1) := by decide +kernel
theorem dX0_await_9 : decode cX0_await 9 = .ok (.bastore, 1) := by decide +kernel
theorem dX0_await_10 : decode cX0_await 10 = .ok (.aload_n 0, 1) := by decide +kernel
theorem dX0_await_11 : decode cX0_await 11 = .ok (.getfield 45, 3) := by decide +kernel
theorem dX0_await_14 : decode cX0_await 14 = .ok (.aload_n 0, 1) := by decide +kernel
theorem dX0_await_15 : decode cX0_await 15 = .ok (.getfield 72, 3) := by decide +kernel
theorem dX0_await_18 : decode cX0_await 18 = .ok (.iload_n 2, 1) := by decide +kernel
theorem dX0_await_19 : decode cX0_await 19 = .ok (.iastore, 1) := by decide +kernel
theorem dX0_await_20 : decode cX0_await 20 = .ok (.aload_n 0, 1) := by decide +kernel
theorem dX0_await_21 : decode cX0_await 21 = .ok (.getfield 55, 3) := by decide +kernel
theorem dX0_await_24 : decode cX0_await 24 = .ok (.aload_n 0, 1) := by decide +kernel
theorem dX0_await_25 : decode cX0_await 25 = .ok (.getfield 72, 3) := by decide +kernel
theorem dX0_await_28 : decode cX0_await 28 = .ok (.iload_n 3, 1) := by decide +kernel
theorem dX0_await_29 : decode cX0_await 29 = .ok (.bastore, 1) := by decide +kernel
theorem dX0_await_30 : decode cX0_await 30 = .ok (.aload_n 0, 1) := by decide +kernel
theorem dX0_await_31 : decode cX0_await 31 = .ok (.getfield 48, 3) := by decide +kernel
theorem dX0_await_34 : decode cX0_await 34 = .ok (.aload_n 0, 1) := by decide +kernel
theorem dX0_await_35 : decode cX0_await 35 = .ok (.getfield 72, 3) := by decide +kernel
theorem dX0_await_38 : decode cX0_await 38 = .ok (.iconst 0, 1) := by decide +kernel
theorem dX0_await_39 : decode cX0_await 39 = .ok (.iastore, 1) := by decide +kernel
theorem dX0_await_40 : decode cX0_await 40 = .ok (.return_, 1) := by decide +kernel
set_option maxRecDepth 20000 in
theorem ggX0_grow_X10_dropLast : GoodIn wsX0_grow wsX10_dropLast := goodIn_r _ [17, 18, 19, 50, 51] (by decide +kernel) (by decide +kernel)
set_option maxRecDepth 20000 in
theorem gX0_grow_X10_dropLast : GoodIn wsX0_grow (wsV RX0 115 RX10 yX10_dropLast wsX10_dropLast) := goodIn_app (goodIn_of _ (by decide +kernel)) ggX0_grow_X10_dropLast
set_option maxRecDepth 20000 in
theorem ggX0_grow_X10_push : GoodIn wsX0_grow wsX10_push := goodIn_r _ [23, 18, 19, 50, 51] (by decide +kernel) (by decide +kernel)
set_option maxRecDepth 20000 in
theorem gX0_grow_X10_push : GoodIn wsX0_grow (wsV RX0 119 RX10 yX10_push wsX10_push) := goodIn_app (goodIn_of _ (by decide +kernel)) ggX0_grow_X10_push
set_option maxRecDepth 20000 in
theorem ggX0_grow_X3_read : GoodIn wsX0_grow wsX3_read := goodIn_r _ [28, 29, 30, 31, 32, 33, 34, 50, 51, 52, 53, 54, 55, 56, 57, 58, 59, 60, 61, 62, 63, 64, 65] (by decide +kernel) (by decide +kernel)
set_option maxRecDepth 20000 in
theorem gX0_grow_X3_read : GoodIn wsX0_grow (wsV RX0 123 RX3 yX3_read wsX3_read) := goodIn_app (goodIn_of _ (by decide +kernel)) ggX0_grow_X3_read
theorem dX0_grow_0 : decode cX0_grow 0 = .ok (.aload_n 0, 1) := by decide +kernel
theorem dX0_grow_1 : decode cX0_grow 1 = .ok (.getfield 51, 3) := by decide +kernel
theorem dX0_grow_4 : decode cX0_grow 4 = .ok (.aload_n 0, 1) := by decide +kernel
theorem dX0_grow_5 : decode cX0_grow 5 = .ok (.getfield 72, 3) := by decide +kernel
theorem dX0_grow_8 : decode cX0_grow 8 = .ok (.baload, 1) := by decide +kernel
theorem dX0_grow_9 : decode cX0_grow 9 = .ok (.ifCond .ne 58, 3) := by decide +kernel
theorem dX0_grow_12 : decode cX0_grow 12 = .ok (.aload_n 0, 1) := by decide +kernel
theorem dX0_grow_13 : decode cX0_grow 13 = .ok (.getfield 24, 3) := by decide +kernel
theorem dX0_grow_16 : decode cX0_grow 16 = .ok (.aload_n 0, 1) := by decide +kernel
theorem dX0_grow_17 : decode cX0_grow 17 = .ok (.getfield 28, 3) := by decide +kernel
theorem dX0_grow_20 : decode cX0_grow 20 = .ok (.invokevirtual 115, 3) := by decide +kernel
theorem dX0_grow_23 : decode cX0_grow 23 = .ok (.invokevirtual 119, 3) := by decide +kernel
theorem dX0_grow_26 : decode cX0_grow 26 = .ok (.pop, 1) := by decide +kernel
theorem dX0_grow_27 : decode cX0_grow 27 = .ok (.aload_n 0, 1) := by decide +kernel
theorem dX0_grow_28 : decode cX0_grow 28 = .ok (.getfield 15, 3) := by decide +kernel
theorem dX0_grow_31 : decode cX0_grow 31 = .ok (.aload_n 0, 1) := by decide +kernel
theorem dX0_grow_32 : decode cX0_grow 32 = .ok (.getfield 24, 3) := by decide +kernel
theorem dX0_grow_35 : decode cX0_grow 35 = .ok (.aload_n 0, 1) := by decide +kernel
theorem dX0_grow_36 : decode cX0_grow 36 = .ok (.getfield 34, 3) := by decide +kernel
theorem dX0_grow_39 : decode cX0_grow 39 = .ok (.aload_n 0, 1) := by decide +kernel
theorem dX0_grow_40 : decode cX0_grow 40 = .ok (.getfield 24, 3) := by decide +kernel
theorem dX0_grow_43 : decode cX0_grow 43 = .ok (.getfield 108, 3) := by decide +kernel
theorem dX0_grow_46 : decode cX0_grow 46 = .ok (.iconst 1, 1) := by decide +kernel
theorem dX0_grow_47 : decode cX0_grow 47 = .ok (.isub, 1) := by decide +kernel
theorem dX0_grow_48 : decode cX0_grow 48 = .ok (.aload_n 0, 1) := by decide +kernel
theorem dX0_grow_49 : decode cX0_grow 49 = .ok (.getfield 24, 3) := by decide +kernel
theorem dX0_grow_52 : decode cX0_grow 52 = .ok (.getfield 108, 3) := by decide +kernel
theorem dX0_grow_55 : decode cX0_grow 55 = .ok (.invokevirtual 123, 3) := by decide +kernel
theorem dX0_grow_58 : decode cX0_grow 58 = .ok (.ifCond .lt 7, 3) := by decide +kernel
theorem dX0_grow_61 : decode cX0_grow 61 = .ok (.iconst 1, 1) := by decide +kernel
theorem dX0_grow_62 : decode cX0_grow 62 = .ok (.goto 4, 3) := by decide +kernel
theorem dX0_grow_65 : decode cX0_grow 65 = .ok (.iconst 0, 1) := by decide +kernel
theorem dX0_grow_66 : decode cX0_grow 66 = .ok (.ireturn, 1) := by decide +kernel
theorem dX0_grow_67 : decode cX0_grow 67 = .ok (.aload_n 0, 1) := by decide +kernel
theorem dX0_grow_68 : decode cX0_grow 68 = .ok (.aload_n 0, 1) := by decide +kernel
theorem dX0_grow_69 : decode cX0_grow 69 = .ok (.getfield 68, 3) := by decide +kernel
theorem dX0_grow_72 : decode cX0_grow 72 = .ok (.iconst 1, 1) := by decide +kernel
theorem dX0_grow_73 : decode cX0_grow 73 = .ok (.isub, 1) := by decide +kernel
theorem dX0_grow_74 : decode cX0_grow 74 = .ok (.iconst 0, 1) := by decide +kernel
theorem dX0_grow_75 : decode cX0_grow 75 = .ok (.invokestatic 129, 3) := by decide +kernel
theorem dX0_grow_78 : decode cX0_grow 78 = .ok (.putfield 68, 3) := by decide +kernel
theorem dX0_grow_81 : decode cX0_grow 81 = .ok (.aload_n 0, 1) := by decide +kernel
theorem dX0_grow_82 : decode cX0_grow 82 = .ok (.getfield 34, 3) := by decide +kernel
theorem dX0_grow_85 : decode cX0_grow 85 = .ok (.aload_n 0, 1) := by decide +kernel
theorem dX0_grow_86 : decode cX0_grow 86 = .ok (.getfield 68, 3) := by decide +kernel
theorem dX0_grow_89 : decode cX0_grow 89 = .ok (.iconst 0, 1) := by decide +kernel
theorem dX0_grow_90 : decode cX0_grow 90 = .ok (.iastore, 1) := by decide +kernel
theorem dX0_grow_91 : decode cX0_grow 91 = .ok (.aload_n 0, 1) := by decide +kernel
theorem dX0_grow_92 : decode cX0_grow 92 = .ok (.getfield 15, 3) := by decide +kernel
theorem dX0_grow_95 : decode cX0_grow 95 = .ok (.aload_n 0, 1) := by decide +kernel
theorem dX0_grow_96 : decode cX0_grow 96 = .ok (.getfield 24, 3) := by decide +kernel
theorem dX0_grow_99 : decode cX0_grow 99 = .ok (.aload_n 0, 1) := by decide +kernel
theorem dX0_grow_100 : decode cX0_grow 100 = .ok (.getfield 34, 3) := by decide +kernel
theorem dX0_grow_103 : decode cX0_grow 103 = .ok (.aload_n 0, 1) := by decide +kernel
theorem dX0_grow_104 : decode cX0_grow 104 = .ok (.getfield 68, 3) := by decide +kernel
theorem dX0_grow_107 : decode cX0_grow 107 = .ok (.aload_n 0, 1) := by decide +kernel
theorem dX0_grow_108 : decode cX0_grow 108 = .ok (.getfield 68, 3) := by decide +kernel
theorem dX0_grow_111 : decode cX0_grow 111 = .ok (.invokevirtual 123, 3) := by decide +kernel
theorem dX0_grow_114 : decode cX0_grow 114 = .ok (.ifCond .lt 7, 3) := by decide +kernel
theorem dX0_grow_117 : decode cX0_grow 117 = .ok (.iconst 1, 1) := by decide +kernel
theorem dX0_grow_118 : decode cX0_grow 118 = .ok (.goto 4, 3) := by decide +kernel
theorem dX0_grow_121 : decode cX0_grow 121 = .ok (.iconst 0, 1) := by decide +kernel
theorem dX0_grow_122 : decode cX0_grow 122 = .ok (.ireturn, 1) := by decide +kernel
set_option maxRecDepth 20000 in
theorem ggX0_growOn_X0_grow : GoodIn wsX0_growOn wsX0_grow := goodIn_r _ [16, 9, 2, 10, 17, 18, 19, 11, 8, 20, 21, 22, 23, 24, 25, 26, 27, 28, 29, 30, 31, 32, 33, 34, 35, 36, 37, 38, 39, 40, 41, 42, 43, 44, 45, 77, 78, 79, 80, 81, 82, 83, 84, 85, 86, 87, 88, 89, 90, 91, 92, 93, 94, 95, 96, 97, 98, 99, 100, 101, 102, 103, 104, 105, 106, 107] rfl (by decide +kernel)
set_option maxRecDepth 20000 in
theorem gX0_growOn_X0_grow : GoodIn wsX0_growOn (wsV RX0 102 RX0 yX0_grow wsX0_grow) := goodIn_app (goodIn_of _ (by decide +kernel)) ggX0_growOn_X0_grow
set_option maxRecDepth 20000 in
theorem ggX0_growOn_X2_take : GoodIn wsX0_growOn wsX2_take := goodIn_r _ [50, 51, 52, 53, 54, 55, 49, 56, 108, 109, 110, 111, 112, 113, 114] (by decide +kernel) (by decide +kernel)
set_option maxRecDepth 20000 in
theorem gX0_growOn_X2_take : GoodIn wsX0_growOn (wsV RX0 105 RX2 yX2_take wsX2_take) := goodIn_app (goodIn_of _ (by decide +kernel)) ggX0_growOn_X2_take
set_option maxRecDepth 20000 in
theorem ggX0_growOn_X2_keep : GoodIn wsX0_growOn wsX2_keep := goodIn_r _ [60, 61, 51, 62, 52, 63, 64, 65, 66, 67, 68, 49, 69, 70, 71, 72, 73, 74, 27, 75, 29, 76, 30, 108, 109, 110, 111, 112, 113, 114, 92, 93] (by decide +kernel) (by decide +kernel)
set_option maxRecDepth 20000 in
theorem gX0_growOn_X2_keep : GoodIn wsX0_growOn (wsV RX0 111 RX2 yX2_keep wsX2_keep) := goodIn_app (goodIn_of _ (by decide +kernel)) ggX0_growOn_X2_keep
theorem dX0_growOn_0 : decode cX0_growOn 0 = .ok (.iconst 0, 1) := by decide +kernel
theorem dX0_growOn_1 : decode cX0_growOn 1 = .ok (.istore_n 1, 1) := by decide +kernel
theorem dX0_growOn_2 : decode cX0_growOn 2 = .ok (.iload_n 1, 1) := by decide +kernel
theorem dX0_growOn_3 : decode cX0_growOn 3 = .ok (.sipush 240, 3) := by decide +kernel
theorem dX0_growOn_6 : decode cX0_growOn 6 = .ok (.if_icmp .ge 200, 3) := by decide +kernel
theorem dX0_growOn_9 : decode cX0_growOn 9 = .ok (.aload_n 0, 1) := by decide +kernel
theorem dX0_growOn_10 : decode cX0_growOn 10 = .ok (.getfield 45, 3) := by decide +kernel
theorem dX0_growOn_13 : decode cX0_growOn 13 = .ok (.aload_n 0, 1) := by decide +kernel
theorem dX0_growOn_14 : decode cX0_growOn 14 = .ok (.getfield 72, 3) := by decide +kernel
theorem dX0_growOn_17 : decode cX0_growOn 17 = .ok (.iaload, 1) := by decide +kernel
theorem dX0_growOn_18 : decode cX0_growOn 18 = .ok (.ifCond .le 48, 3) := by decide +kernel
theorem dX0_growOn_21 : decode cX0_growOn 21 = .ok (.aload_n 0, 1) := by decide +kernel
theorem dX0_growOn_22 : decode cX0_growOn 22 = .ok (.getfield 45, 3) := by decide +kernel
theorem dX0_growOn_25 : decode cX0_growOn 25 = .ok (.aload_n 0, 1) := by decide +kernel
theorem dX0_growOn_26 : decode cX0_growOn 26 = .ok (.getfield 72, 3) := by decide +kernel
theorem dX0_growOn_29 : decode cX0_growOn 29 = .ok (.dup2, 1) := by decide +kernel
theorem dX0_growOn_30 : decode cX0_growOn 30 = .ok (.iaload, 1) := by decide +kernel
theorem dX0_growOn_31 : decode cX0_growOn 31 = .ok (.iconst 1, 1) := by decide +kernel
theorem dX0_growOn_32 : decode cX0_growOn 32 = .ok (.isub, 1) := by decide +kernel
theorem dX0_growOn_33 : decode cX0_growOn 33 = .ok (.iastore, 1) := by decide +kernel
theorem dX0_growOn_34 : decode cX0_growOn 34 = .ok (.aload_n 0, 1) := by decide +kernel
theorem dX0_growOn_35 : decode cX0_growOn 35 = .ok (.getfield 48, 3) := by decide +kernel
theorem dX0_growOn_38 : decode cX0_growOn 38 = .ok (.aload_n 0, 1) := by decide +kernel
theorem dX0_growOn_39 : decode cX0_growOn 39 = .ok (.getfield 72, 3) := by decide +kernel
theorem dX0_growOn_42 : decode cX0_growOn 42 = .ok (.dup2, 1) := by decide +kernel
theorem dX0_growOn_43 : decode cX0_growOn 43 = .ok (.iaload, 1) := by decide +kernel
theorem dX0_growOn_44 : decode cX0_growOn 44 = .ok (.iconst 1, 1) := by decide +kernel
theorem dX0_growOn_45 : decode cX0_growOn 45 = .ok (.iadd, 1) := by decide +kernel
theorem dX0_growOn_46 : decode cX0_growOn 46 = .ok (.iastore, 1) := by decide +kernel
theorem dX0_growOn_47 : decode cX0_growOn 47 = .ok (.aload_n 0, 1) := by decide +kernel
theorem dX0_growOn_48 : decode cX0_growOn 48 = .ok (.invokevirtual 102, 3) := by decide +kernel
theorem dX0_growOn_51 : decode cX0_growOn 51 = .ok (.ifCond .eq 149, 3) := by decide +kernel
theorem dX0_growOn_54 : decode cX0_growOn 54 = .ok (.aload_n 0, 1) := by decide +kernel
theorem dX0_growOn_55 : decode cX0_growOn 55 = .ok (.getfield 48, 3) := by decide +kernel
theorem dX0_growOn_58 : decode cX0_growOn 58 = .ok (.aload_n 0, 1) := by decide +kernel
theorem dX0_growOn_59 : decode cX0_growOn 59 = .ok (.getfield 72, 3) := by decide +kernel
theorem dX0_growOn_62 : decode cX0_growOn 62 = .ok (.iconst 0, 1) := by decide +kernel
theorem dX0_growOn_63 : decode cX0_growOn 63 = .ok (.iastore, 1) := by decide +kernel
theorem dX0_growOn_64 : decode cX0_growOn 64 = .ok (.iconst 1, 1) := by decide +kernel
theorem dX0_growOn_65 : decode cX0_growOn 65 = .ok (.ireturn, 1) := by decide +kernel
theorem dX0_growOn_66 : decode cX0_growOn 66 = .ok (.aload_n 0, 1) := by decide +kernel
theorem dX0_growOn_67 : decode cX0_growOn 67 = .ok (.getfield 72, 3) := by decide +kernel
theorem dX0_growOn_70 : decode cX0_growOn 70 = .ok (.ifCond .le 128, 3) := by decide +kernel
theorem dX0_growOn_73 : decode cX0_growOn 73 = .ok (.aload_n 0, 1) := by decide +kernel
theorem dX0_growOn_74 : decode cX0_growOn 74 = .ok (.getfield 55, 3) := by decide +kernel
theorem dX0_growOn_77 : decode cX0_growOn 77 = .ok (.aload_n 0, 1) := by decide +kernel
theorem dX0_growOn_78 : decode cX0_growOn 78 = .ok (.getfield 72, 3) := by decide +kernel
theorem dX0_growOn_81 : decode cX0_growOn 81 = .ok (.baload, 1) := by decide +kernel
theorem dX0_growOn_82 : decode cX0_growOn 82 = .ok (.ifCond .eq 7, 3) := by decide +kernel
theorem dX0_growOn_85 : decode cX0_growOn 85 = .ok (.iconst 0, 1) := by decide +kernel
theorem dX0_growOn_86 : decode cX0_growOn 86 = .ok (.goto 12, 3) := by decide +kernel
theorem dX0_growOn_89 : decode cX0_growOn 89 = .ok (.aload_n 0, 1) := by decide +kernel
theorem dX0_growOn_90 : decode cX0_growOn 90 = .ok (.getfield 48, 3) := by decide +kernel
theorem dX0_growOn_93 : decode cX0_growOn 93 = .ok (.aload_n 0, 1) := by decide +kernel
theorem dX0_growOn_94 : decode cX0_growOn 94 = .ok (.getfield 72, 3) := by decide +kernel
theorem dX0_growOn_97 : decode cX0_growOn 97 = .ok (.iaload, 1) := by decide +kernel
theorem dX0_growOn_98 : decode cX0_growOn 98 = .ok (.istore_n 2, 1) := by decide +kernel
theorem dX0_growOn_99 : decode cX0_growOn 99 = .ok (.aload_n 0, 1) := by decide +kernel
theorem dX0_growOn_100 : decode cX0_growOn 100 = .ok (.getfield 61, 3) := by decide +kernel
theorem dX0_growOn_103 : decode cX0_growOn 103 = .ok (.aload_n 0, 1) := by decide +kernel
theorem dX0_growOn_104 : decode cX0_growOn 104 = .ok (.getfield 38, 3) := by decide +kernel
theorem dX0_growOn_107 : decode cX0_growOn 107 = .ok (.aload_n 0, 1) := by decide +kernel
theorem dX0_growOn_108 : decode cX0_growOn 108 = .ok (.getfield 72, 3) := by decide +kernel
theorem dX0_growOn_111 : decode cX0_growOn 111 = .ok (.laload, 1) := by decide +kernel
theorem dX0_growOn_112 : decode cX0_growOn 112 = .ok (.aload_n 0, 1) := by decide +kernel
theorem dX0_growOn_113 : decode cX0_growOn 113 = .ok (.getfield 42, 3) := by decide +kernel
theorem dX0_growOn_116 : decode cX0_growOn 116 = .ok (.aload_n 0, 1) := by decide +kernel
theorem dX0_growOn_117 : decode cX0_growOn 117 = .ok (.getfield 72, 3) := by decide +kernel
theorem dX0_growOn_120 : decode cX0_growOn 120 = .ok (.laload, 1) := by decide +kernel
theorem dX0_growOn_121 : decode cX0_growOn 121 = .ok (.iload_n 2, 1) := by decide +kernel
theorem dX0_growOn_122 : decode cX0_growOn 122 = .ok (.invokevirtual 105, 3) := by decide +kernel
theorem dX0_growOn_125 : decode cX0_growOn 125 = .ok (.aload_n 0, 1) := by decide +kernel
theorem dX0_growOn_126 : decode cX0_growOn 126 = .ok (.getfield 68, 3) := by decide +kernel
theorem dX0_growOn_129 : decode cX0_growOn 129 = .ok (.aload_n 0, 1) := by decide +kernel
theorem dX0_growOn_130 : decode cX0_growOn 130 = .ok (.getfield 51, 3) := by decide +kernel
theorem dX0_growOn_133 : decode cX0_growOn 133 = .ok (.aload_n 0, 1) := by decide +kernel
theorem dX0_growOn_134 : decode cX0_growOn 134 = .ok (.getfield 72, 3) := by decide +kernel
theorem dX0_growOn_137 : decode cX0_growOn 137 = .ok (.baload, 1) := by decide +kernel
theorem dX0_growOn_138 : decode cX0_growOn 138 = .ok (.ifCond .eq 7, 3) := by decide +kernel
theorem dX0_growOn_141 : decode cX0_growOn 141 = .ok (.iload_n 2, 1) := by decide +kernel
theorem dX0_growOn_142 : decode cX0_growOn 142 = .ok (.goto 4, 3) := by decide +kernel
theorem dX0_growOn_145 : decode cX0_growOn 145 = .ok (.iconst 0, 1) := by decide +kernel
theorem dX0_growOn_146 : decode cX0_growOn 146 = .ok (.iadd, 1) := by decide +kernel
theorem dX0_growOn_147 : decode cX0_growOn 147 = .ok (.istore_n 3, 1) := by decide +kernel
theorem dX0_growOn_148 : decode cX0_growOn 148 = .ok (.aload_n 0, 1) := by decide +kernel
theorem dX0_growOn_149 : decode cX0_growOn 149 = .ok (.getfield 61, 3) := by decide +kernel
theorem dX0_growOn_152 : decode cX0_growOn 152 = .ok (.aload_n 0, 1) := by decide +kernel
theorem dX0_growOn_153 : decode cX0_growOn 153 = .ok (.getfield 24, 3) := by decide +kernel
theorem dX0_growOn_156 : decode cX0_growOn 156 = .ok (.iload_n 3, 1) := by decide +kernel
theorem dX0_growOn_157 : decode cX0_growOn 157 = .ok (.aload_n 0, 1) := by decide +kernel
theorem dX0_growOn_158 : decode cX0_growOn 158 = .ok (.getfield 24, 3) := by decide +kernel
theorem dX0_growOn_161 : decode cX0_growOn 161 = .ok (.getfield 108, 3) := by decide +kernel
theorem dX0_growOn_164 : decode cX0_growOn 164 = .ok (.aload_n 0, 1) := by decide +kernel
theorem dX0_growOn_165 : decode cX0_growOn 165 = .ok (.getfield 51, 3) := by decide +kernel
theorem dX0_growOn_168 : decode cX0_growOn 168 = .ok (.aload_n 0, 1) := by decide +kernel
theorem dX0_growOn_169 : decode cX0_growOn 169 = .ok (.getfield 72, 3) := by decide +kernel
theorem dX0_growOn_172 : decode cX0_growOn 172 = .ok (.baload, 1) := by decide +kernel
theorem dX0_growOn_173 : decode cX0_growOn 173 = .ok (.ifCond .eq 7, 3) := by decide +kernel
theorem dX0_growOn_176 : decode cX0_growOn 176 = .ok (.iconst 0, 1) := by decide +kernel
theorem dX0_growOn_177 : decode cX0_growOn 177 = .ok (.goto 4, 3) := by decide +kernel
theorem dX0_growOn_180 : decode cX0_growOn 180 = .ok (.iload_n 2, 1) := by decide +kernel
theorem dX0_growOn_181 : decode cX0_growOn 181 = .ok (.isub, 1) := by decide +kernel
theorem dX0_growOn_182 : decode cX0_growOn 182 = .ok (.invokevirtual 111, 3) := by decide +kernel
theorem dX0_growOn_185 : decode cX0_growOn 185 = .ok (.aload_n 0, 1) := by decide +kernel
theorem dX0_growOn_186 : decode cX0_growOn 186 = .ok (.dup, 1) := by decide +kernel
theorem dX0_growOn_187 : decode cX0_growOn 187 = .ok (.getfield 72, 3) := by decide +kernel
theorem dX0_growOn_190 : decode cX0_growOn 190 = .ok (.iconst 1, 1) := by decide +kernel
theorem dX0_growOn_191 : decode cX0_growOn 191 = .ok (.isub, 1) := by decide +kernel
theorem dX0_growOn_192 : decode cX0_growOn 192 = .ok (.putfield 72, 3) := by decide +kernel
theorem dX0_growOn_195 : decode cX0_growOn 195 = .ok (.goto 5, 3) := by decide +kernel
theorem dX0_growOn_198 : decode cX0_growOn 198 = .ok (.iconst 0, 1) := by decide +kernel
theorem dX0_growOn_199 : decode cX0_growOn 199 = .ok (.ireturn, 1) := by decide +kernel
theorem dX0_growOn_200 : decode cX0_growOn 200 = .ok (.iinc 1 1, 3) := by decide +kernel
theorem dX0_growOn_203 : decode cX0_growOn 203 = .ok (.goto (-201), 3) := by decide +kernel
theorem dX0_growOn_206 : decode cX0_growOn 206 = .ok (.iconst 0, 1) := by decide +kernel
theorem dX0_growOn_207 : decode cX0_growOn 207 = .ok (.ireturn, 1) := by decide +kernel
set_option maxRecDepth 20000 in
theorem ggX0_init_X10_init : GoodIn wsX0_init wsX10_init := goodIn_r _ [28, 29, 2, 3, 30, 31, 32, 33, 12, 34, 64, 65] (by decide +kernel) (by decide +kernel)
set_option maxRecDepth 20000 in
theorem gX0_init_X10_init : GoodIn wsX0_init (wsX10_init) := ggX0_init_X10_init
set_option maxRecDepth 20000 in
theorem ggX0_init_X2_init : GoodIn wsX0_init wsX2_init := goodIn_r _ [37, 38, 2, 3, 39, 40, 41, 42, 24, 43, 14, 44, 45, 46, 47, 48, 66, 67, 68, 69, 70, 71, 72] (by decide +kernel) (by decide +kernel)
set_option maxRecDepth 20000 in
theorem gX0_init_X2_init : GoodIn wsX0_init (wsX2_init) := ggX0_init_X2_init
theorem dX0_init_0 : decode cX0_init 0 = .ok (.aload_n 0, 1) := by decide +kernel
theorem dX0_init_1 : decode cX0_init 1 = .ok (.invokespecial 3, 3) := by decide +kernel
theorem dX0_init_4 : decode cX0_init 4 = .ok (.aload_n 0, 1) := by decide +kernel
theorem dX0_init_5 : decode cX0_init 5 = .ok (.aload_n 1, 1) := by decide +kernel
theorem dX0_init_6 : decode cX0_init 6 = .ok (.putfield 9, 3) := by decide +kernel
theorem dX0_init_9 : decode cX0_init 9 = .ok (.aload_n 0, 1) := by decide +kernel
theorem dX0_init_10 : decode cX0_init 10 = .ok (.aload_n 2, 1) := by decide +kernel
theorem dX0_init_11 : decode cX0_init 11 = .ok (.putfield 15, 3) := by decide +kernel
theorem dX0_init_14 : decode cX0_init 14 = .ok (.aload_n 0, 1) := by decide +kernel
theorem dX0_init_15 : decode cX0_init 15 = .ok (.new 19, 3) := by decide +kernel
theorem dX0_init_18 : decode cX0_init 18 = .ok (.dup, 1) := by decide +kernel
theorem dX0_init_19 : decode cX0_init 19 = .ok (.bipush 60, 2) := by decide +kernel
theorem dX0_init_21 : decode cX0_init 21 = .ok (.invokespecial 21, 3) := by decide +kernel
theorem dX0_init_24 : decode cX0_init 24 = .ok (.putfield 24, 3) := by decide +kernel
theorem dX0_init_27 : decode cX0_init 27 = .ok (.aload_n 0, 1) := by decide +kernel
theorem dX0_init_28 : decode cX0_init 28 = .ok (.new 19, 3) := by decide +kernel
theorem dX0_init_31 : decode cX0_init 31 = .ok (.dup, 1) := by decide +kernel
theorem dX0_init_32 : decode cX0_init 32 = .ok (.bipush 60, 2) := by decide +kernel
theorem dX0_init_34 : decode cX0_init 34 = .ok (.invokespecial 21, 3) := by decide +kernel
theorem dX0_init_37 : decode cX0_init 37 = .ok (.putfield 28, 3) := by decide +kernel
theorem dX0_init_40 : decode cX0_init 40 = .ok (.aload_n 0, 1) := by decide +kernel
theorem dX0_init_41 : decode cX0_init 41 = .ok (.new 19, 3) := by decide +kernel
theorem dX0_init_44 : decode cX0_init 44 = .ok (.dup, 1) := by decide +kernel
theorem dX0_init_45 : decode cX0_init 45 = .ok (.bipush 60, 2) := by decide +kernel
theorem dX0_init_47 : decode cX0_init 47 = .ok (.invokespecial 21, 3) := by decide +kernel
theorem dX0_init_50 : decode cX0_init 50 = .ok (.putfield 31, 3) := by decide +kernel
theorem dX0_init_53 : decode cX0_init 53 = .ok (.aload_n 0, 1) := by decide +kernel
theorem dX0_init_54 : decode cX0_init 54 = .ok (.bipush 61, 2) := by decide +kernel
theorem dX0_init_56 : decode cX0_init 56 = .ok (.newarray .int, 2) := by decide +kernel
theorem dX0_init_58 : decode cX0_init 58 = .ok (.putfield 34, 3) := by decide +kernel
theorem dX0_init_61 : decode cX0_init 61 = .ok (.bipush 62, 2) := by decide +kernel
theorem dX0_init_63 : decode cX0_init 63 = .ok (.istore_n 3, 1) := by decide +kernel
theorem dX0_init_64 : decode cX0_init 64 = .ok (.aload_n 0, 1) := by decide +kernel
theorem dX0_init_65 : decode cX0_init 65 = .ok (.iload_n 3, 1) := by decide +kernel
theorem dX0_init_66 : decode cX0_init 66 = .ok (.newarray .long, 2) := by decide +kernel
theorem dX0_init_68 : decode cX0_init 68 = .ok (.putfield 38, 3) := by decide +kernel
theorem dX0_init_71 : decode cX0_init 71 = .ok (.aload_n 0, 1) := by decide +kernel
theorem dX0_init_72 : decode cX0_init 72 = .ok (.iload_n 3, 1) := by decide +kernel
theorem dX0_init_73 : decode cX0_init 73 = .ok (.newarray .long, 2) := by decide +kernel
theorem dX0_init_75 : decode cX0_init 75 = .ok (.putfield 42, 3) := by decide +kernel
theorem dX0_init_78 : decode cX0_init 78 = .ok (.aload_n 0, 1) := by decide +kernel
theorem dX0_init_79 : decode cX0_init 79 = .ok (.iload_n 3, 1) := by decide +kernel
theorem dX0_init_80 : decode cX0_init 80 = .ok (.newarray .int, 2) := by decide +kernel
theorem dX0_init_82 : decode cX0_init 82 = .ok (.putfield 45, 3) := by decide +kernel
theorem dX0_init_85 : decode cX0_init 85 = .ok (.aload_n 0, 1) := by decide +kernel
theorem dX0_init_86 : decode cX0_init 86 = .ok (.iload_n 3, 1) := by decide +kernel
theorem dX0_init_87 : decode cX0_init 87 = .ok (.newarray .int, 2) := by decide +kernel
theorem dX0_init_89 : decode cX0_init 89 = .ok (.putfield 48, 3) := by decide +kernel
theorem dX0_init_92 : decode cX0_init 92 = .ok (.aload_n 0, 1) := by decide +kernel
theorem dX0_init_93 : decode cX0_init 93 = .ok (.iload_n 3, 1) := by decide +kernel
theorem dX0_init_94 : decode cX0_init 94 = .ok (.newarray .boolean, 2) := by decide +kernel
theorem dX0_init_96 : decode cX0_init 96 = .ok (.putfield 51, 3) := by decide +kernel
theorem dX0_init_99 : decode cX0_init 99 = .ok (.aload_n 0, 1) := by decide +kernel
theorem dX0_init_100 : decode cX0_init 100 = .ok (.iload_n 3, 1) := by decide +kernel
theorem dX0_init_101 : decode cX0_init 101 = .ok (.newarray .boolean, 2) := by decide +kernel
theorem dX0_init_103 : decode cX0_init 103 = .ok (.putfield 55, 3) := by decide +kernel
theorem dX0_init_106 : decode cX0_init 106 = .ok (.aload_n 0, 1) := by decide +kernel
theorem dX0_init_107 : decode cX0_init 107 = .ok (.new 58, 3) := by decide +kernel
theorem dX0_init_110 : decode cX0_init 110 = .ok (.dup, 1) := by decide +kernel
theorem dX0_init_111 : decode cX0_init 111 = .ok (.invokespecial 60, 3) := by decide +kernel
theorem dX0_init_114 : decode cX0_init 114 = .ok (.putfield 61, 3) := by decide +kernel
theorem dX0_init_117 : decode cX0_init 117 = .ok (.return_, 1) := by decide +kernel
theorem dX0_open_0 : decode cX0_open 0 = .ok (.aload_n 0, 1) := by decide +kernel
theorem dX0_open_1 : decode cX0_open 1 = .ok (.getfield 72, 3) := by decide +kernel
theorem dX0_open_4 : decode cX0_open 4 = .ok (.ifCond .le 17, 3) := by decide +kernel
theorem dX0_open_7 : decode cX0_open 7 = .ok (.aload_n 0, 1) := by decide +kernel
theorem dX0_open_8 : decode cX0_open 8 = .ok (.getfield 45, 3) := by decide +kernel
theorem dX0_open_11 : decode cX0_open 11 = .ok (.aload_n 0, 1) := by decide +kernel
theorem dX0_open_12 : decode cX0_open 12 = .ok (.getfield 72, 3) := by decide +kernel
theorem dX0_open_15 : decode cX0_open 15 = .ok (.iaload, 1) := by decide +kernel
theorem dX0_open_16 : decode cX0_open 16 = .ok (.ifCond .gt 5, 3) := by decide +kernel
theorem dX0_open_19 : decode cX0_open 19 = .ok (.iconst 1, 1) := by decide +kernel
theorem dX0_open_20 : decode cX0_open 20 = .ok (.ireturn, 1) := by decide +kernel
theorem dX0_open_21 : decode cX0_open 21 = .ok (.aload_n 0, 1) := by decide +kernel
theorem dX0_open_22 : decode cX0_open 22 = .ok (.getfield 72, 3) := by decide +kernel
theorem dX0_open_25 : decode cX0_open 25 = .ok (.aload_n 0, 1) := by decide +kernel
theorem dX0_open_26 : decode cX0_open 26 = .ok (.getfield 45, 3) := by decide +kernel
theorem dX0_open_29 : decode cX0_open 29 = .ok (.arraylength, 1) := by decide +kernel
theorem dX0_open_30 : decode cX0_open 30 = .ok (.iconst 1, 1) := by decide +kernel
theorem dX0_open_31 : decode cX0_open 31 = .ok (.isub, 1) := by decide +kernel
theorem dX0_open_32 : decode cX0_open 32 = .ok (.if_icmp .ge 13, 3) := by decide +kernel
theorem dX0_open_35 : decode cX0_open 35 = .ok (.aload_n 0, 1) := by decide +kernel
theorem dX0_open_36 : decode cX0_open 36 = .ok (.dup, 1) := by decide +kernel
theorem dX0_open_37 : decode cX0_open 37 = .ok (.getfield 72, 3) := by decide +kernel
theorem dX0_open_40 : decode cX0_open 40 = .ok (.iconst 1, 1) := by decide +kernel
theorem dX0_open_41 : decode cX0_open 41 = .ok (.iadd, 1) := by decide +kernel
theorem dX0_open_42 : decode cX0_open 42 = .ok (.putfield 72, 3) := by decide +kernel
theorem dX0_open_45 : decode cX0_open 45 = .ok (.aload_n 0, 1) := by decide +kernel
theorem dX0_open_46 : decode cX0_open 46 = .ok (.getfield 38, 3) := by decide +kernel
theorem dX0_open_49 : decode cX0_open 49 = .ok (.aload_n 0, 1) := by decide +kernel
theorem dX0_open_50 : decode cX0_open 50 = .ok (.getfield 72, 3) := by decide +kernel
theorem dX0_open_53 : decode cX0_open 53 = .ok (.lload_n 1, 1) := by decide +kernel
theorem dX0_open_54 : decode cX0_open 54 = .ok (.lastore, 1) := by decide +kernel
theorem dX0_open_55 : decode cX0_open 55 = .ok (.aload_n 0, 1) := by decide +kernel
theorem dX0_open_56 : decode cX0_open 56 = .ok (.getfield 42, 3) := by decide +kernel
theorem dX0_open_59 : decode cX0_open 59 = .ok (.aload_n 0, 1) := by decide +kernel
theorem dX0_open_60 : decode cX0_open 60 = .ok (.getfield 72, 3) := by decide +kernel
theorem dX0_open_63 : decode cX0_open 63 = .ok (.lload_n 3, 1) := by decide +kernel
theorem dX0_open_64 : decode cX0_open 64 = .ok (.lastore, 1) := by decide +kernel
theorem dX0_open_65 : decode cX0_open 65 = .ok (.iconst 0, 1) := by decide +kernel
theorem dX0_open_66 : decode cX0_open 66 = .ok (.ireturn, 1) := by decide +kernel
set_option maxRecDepth 20000 in
theorem ggX0_replace_X2_begin : GoodIn wsX0_replace wsX2_begin := goodIn_r _ [20, 21, 22, 23, 134, 135, 136, 137, 138, 139, 140] (by decide +kernel) (by decide +kernel)
set_option maxRecDepth 20000 in
theorem gX0_replace_X2_begin : GoodIn wsX0_replace (wsV RX0 135 RX2 yX2_begin wsX2_begin) := goodIn_app (goodIn_of _ (by decide +kernel)) ggX0_replace_X2_begin
set_option maxRecDepth 20000 in
theorem ggX0_replace_X2_push : GoodIn wsX0_replace wsX2_push := goodIn_r _ [27, 22, 28, 29, 23, 134, 135, 136, 137, 138, 139, 140] (by decide +kernel) (by decide +kernel)
set_option maxRecDepth 20000 in
theorem gX0_replace_X2_push : GoodIn wsX0_replace (wsV RX0 141 RX2 yX2_push wsX2_push) := goodIn_app (goodIn_of _ (by decide +kernel)) ggX0_replace_X2_push
set_option maxRecDepth 20000 in
theorem ggX0_replace_X7_spanOf : GoodIn wsX0_replace wsX7_spanOf := goodIn_r _ [34, 35, 36, 151, 152, 153, 154, 155, 156, 157] (by decide +kernel) (by decide +kernel)
set_option maxRecDepth 20000 in
theorem gX0_replace_X7_spanOf : GoodIn wsX0_replace (wsV RX0 153 RX7 yX7_spanOf wsX7_spanOf) := goodIn_app (goodIn_of _ (by decide +kernel)) ggX0_replace_X7_spanOf
set_option maxRecDepth 20000 in
theorem ggX0_replace_X2_find : GoodIn wsX0_replace wsX2_find := goodIn_r _ [40, 41, 22, 42, 23, 43, 44, 45, 46, 47, 19, 48, 49, 50, 51, 52, 53, 54, 55, 56, 57, 58, 134, 135, 136, 137, 138, 139, 140, 132, 133] (by decide +kernel) (by decide +kernel)
set_option maxRecDepth 20000 in
theorem gX0_replace_X2_find : GoodIn wsX0_replace (wsV RX0 159 RX2 yX2_find wsX2_find) := goodIn_app (goodIn_of _ (by decide +kernel)) ggX0_replace_X2_find
set_option maxRecDepth 20000 in
theorem ggX0_replace_X2_drop : GoodIn wsX0_replace wsX2_drop := goodIn_r _ [62, 23, 22, 134, 135, 136, 137, 138, 139, 140] (by decide +kernel) (by decide +kernel)
set_option maxRecDepth 20000 in
theorem gX0_replace_X2_drop : GoodIn wsX0_replace (wsV RX0 163 RX2 yX2_drop wsX2_drop) := goodIn_app (goodIn_of _ (by decide +kernel)) ggX0_replace_X2_drop
set_option maxRecDepth 20000 in
theorem ggX0_replace_X7_packedRight : GoodIn wsX0_replace wsX7_packedRight := goodIn_r _ [66, 67, 36, 151, 152, 153, 154, 155, 156, 157] (by decide +kernel) (by decide +kernel)
set_option maxRecDepth 20000 in
theorem gX0_replace_X7_packedRight : GoodIn wsX0_replace (wsV RX0 166 RX7 yX7_packedRight wsX7_packedRight) := goodIn_app (goodIn_of _ (by decide +kernel)) ggX0_replace_X7_packedRight
set_option maxRecDepth 20000 in
theorem ggX0_replace_X10_unpack : GoodIn wsX0_replace wsX10_unpack := goodIn_r _ [55, 56, 57, 58, 132, 133] (by decide +kernel) (by decide +kernel)
set_option maxRecDepth 20000 in
theorem gX0_replace_X10_unpack : GoodIn wsX0_replace (wsV RX0 170 RX10 yX10_unpack wsX10_unpack) := goodIn_app (goodIn_of _ (by decide +kernel)) ggX0_replace_X10_unpack
set_option maxRecDepth 20000 in
theorem ggX0_replace_X0_replaceFirst : GoodIn wsX0_replace wsX0_replaceFirst := goodIn_r _ [73, 3, 4, 2, 15, 5, 74, 9, 75, 76, 77, 78, 79, 80, 81, 54, 82, 56, 57, 83, 84, 85, 86, 87, 88, 89, 90, 91, 92, 93, 94, 95, 96, 72, 97, 98, 99, 100, 101, 102, 103, 104, 105, 106, 107, 108, 109, 110, 111, 112, 117, 118, 119, 120, 121, 122, 123, 124, 125, 126, 127, 128, 129, 130, 131, 132, 133, 141, 142, 143, 144, 145, 146, 147, 148, 149, 150, 158, 159, 160, 161] rfl (by decide +kernel)
set_option maxRecDepth 20000 in
theorem gX0_replace_X0_replaceFirst : GoodIn wsX0_replace (wsV RX0 174 RX0 yX0_replaceFirst wsX0_replaceFirst) := goodIn_app (goodIn_of _ (by decide +kernel)) ggX0_replace_X0_replaceFirst
set_option maxRecDepth 20000 in
theorem ggX0_replace_X0_replaceLast : GoodIn wsX0_replace wsX0_replaceLast := goodIn_r _ [116, 2, 3, 4, 15, 9, 74, 75, 79, 80, 81, 54, 82, 56, 57, 83, 84, 85, 86, 87, 88, 89, 90, 91, 92, 93, 94, 95, 96, 72, 97, 98, 99, 100, 101, 106, 107, 108, 109, 110, 111, 112, 102, 103, 104, 105, 117, 118, 119, 120, 121, 122, 123, 124, 125, 126, 127, 128, 129, 130, 131, 132, 133, 141, 142, 143, 144, 145, 146, 147, 148, 149, 150, 158, 159, 160, 161] rfl (by decide +kernel)
set_option maxRecDepth 20000 in
theorem gX0_replace_X0_replaceLast : GoodIn wsX0_replace (wsV RX0 178 RX0 yX0_replaceLast wsX0_replaceLast) := goodIn_app (goodIn_of _ (by decide +kernel)) ggX0_replace_X0_replaceLast
theorem dX0_replace_0 : decode cX0_replace 0 = .ok (.aload_n 0, 1) := by decide +kernel
theorem dX0_replace_1 : decode cX0_replace 1 = .ok (.getfield 61, 3) := by decide +kernel
theorem dX0_replace_4 : decode cX0_replace 4 = .ok (.iload_n 1, 1) := by decide +kernel
theorem dX0_replace_5 : decode cX0_replace 5 = .ok (.ifCond .ne 7, 3) := by decide +kernel
theorem dX0_replace_8 : decode cX0_replace 8 = .ok (.iconst 1, 1) := by decide +kernel
theorem dX0_replace_9 : decode cX0_replace 9 = .ok (.goto 4, 3) := by decide +kernel
theorem dX0_replace_12 : decode cX0_replace 12 = .ok (.iconst 0, 1) := by decide +kernel
theorem dX0_replace_13 : decode cX0_replace 13 = .ok (.invokevirtual 135, 3) := by decide +kernel
theorem dX0_replace_16 : decode cX0_replace 16 = .ok (.aload_n 0, 1) := by decide +kernel
theorem dX0_replace_17 : decode cX0_replace 17 = .ok (.getfield 68, 3) := by decide +kernel
theorem dX0_replace_20 : decode cX0_replace 20 = .ok (.istore_n 2, 1) := by decide +kernel
theorem dX0_replace_21 : decode cX0_replace 21 = .ok (.iload_n 2, 1) := by decide +kernel
theorem dX0_replace_22 : decode cX0_replace 22 = .ok (.aload_n 0, 1) := by decide +kernel
theorem dX0_replace_23 : decode cX0_replace 23 = .ok (.getfield 24, 3) := by decide +kernel
theorem dX0_replace_26 : decode cX0_replace 26 = .ok (.getfield 108, 3) := by decide +kernel
theorem dX0_replace_29 : decode cX0_replace 29 = .ok (.if_icmp .ge 48, 3) := by decide +kernel
theorem dX0_replace_32 : decode cX0_replace 32 = .ok (.aload_n 0, 1) := by decide +kernel
theorem dX0_replace_33 : decode cX0_replace 33 = .ok (.getfield 61, 3) := by decide +kernel
theorem dX0_replace_36 : decode cX0_replace 36 = .ok (.aload_n 0, 1) := by decide +kernel
theorem dX0_replace_37 : decode cX0_replace 37 = .ok (.getfield 24, 3) := by decide +kernel
theorem dX0_replace_40 : decode cX0_replace 40 = .ok (.getfield 138, 3) := by decide +kernel
theorem dX0_replace_43 : decode cX0_replace 43 = .ok (.iload_n 1, 1) := by decide +kernel
theorem dX0_replace_44 : decode cX0_replace 44 = .ok (.ifCond .eq 7, 3) := by decide +kernel
theorem dX0_replace_47 : decode cX0_replace 47 = .ok (.iload_n 2, 1) := by decide +kernel
theorem dX0_replace_48 : decode cX0_replace 48 = .ok (.goto 19, 3) := by decide +kernel
theorem dX0_replace_51 : decode cX0_replace 51 = .ok (.aload_n 0, 1) := by decide +kernel
theorem dX0_replace_52 : decode cX0_replace 52 = .ok (.getfield 24, 3) := by decide +kernel
theorem dX0_replace_55 : decode cX0_replace 55 = .ok (.getfield 108, 3) := by decide +kernel
theorem dX0_replace_58 : decode cX0_replace 58 = .ok (.iconst 1, 1) := by decide +kernel
theorem dX0_replace_59 : decode cX0_replace 59 = .ok (.isub, 1) := by decide +kernel
theorem dX0_replace_60 : decode cX0_replace 60 = .ok (.iload_n 2, 1) := by decide +kernel
theorem dX0_replace_61 : decode cX0_replace 61 = .ok (.aload_n 0, 1) := by decide +kernel
theorem dX0_replace_62 : decode cX0_replace 62 = .ok (.getfield 68, 3) := by decide +kernel
theorem dX0_replace_65 : decode cX0_replace 65 = .ok (.isub, 1) := by decide +kernel
theorem dX0_replace_66 : decode cX0_replace 66 = .ok (.isub, 1) := by decide +kernel
theorem dX0_replace_67 : decode cX0_replace 67 = .ok (.iaload, 1) := by decide +kernel
theorem dX0_replace_68 : decode cX0_replace 68 = .ok (.invokevirtual 141, 3) := by decide +kernel
theorem dX0_replace_71 : decode cX0_replace 71 = .ok (.iinc 2 1, 3) := by decide +kernel
theorem dX0_replace_74 : decode cX0_replace 74 = .ok (.goto (-53), 3) := by decide +kernel
theorem dX0_replace_77 : decode cX0_replace 77 = .ok (.aload_n 0, 1) := by decide +kernel
theorem dX0_replace_78 : decode cX0_replace 78 = .ok (.getfield 61, 3) := by decide +kernel
theorem dX0_replace_81 : decode cX0_replace 81 = .ok (.getfield 143, 3) := by decide +kernel
theorem dX0_replace_84 : decode cX0_replace 84 = .ok (.lstore_n 2, 1) := by decide +kernel
theorem dX0_replace_85 : decode cX0_replace 85 = .ok (.aload_n 0, 1) := by decide +kernel
theorem dX0_replace_86 : decode cX0_replace 86 = .ok (.getfield 61, 3) := by decide +kernel
theorem dX0_replace_89 : decode cX0_replace 89 = .ok (.getfield 147, 3) := by decide +kernel
theorem dX0_replace_92 : decode cX0_replace 92 = .ok (.lstore 4, 2) := by decide +kernel
theorem dX0_replace_94 : decode cX0_replace 94 = .ok (.aload_n 0, 1) := by decide +kernel
theorem dX0_replace_95 : decode cX0_replace 95 = .ok (.getfield 24, 3) := by decide +kernel
theorem dX0_replace_98 : decode cX0_replace 98 = .ok (.getfield 108, 3) := by decide +kernel
theorem dX0_replace_101 : decode cX0_replace 101 = .ok (.aload_n 0, 1) := by decide +kernel
theorem dX0_replace_102 : decode cX0_replace 102 = .ok (.getfield 68, 3) := by decide +kernel
theorem dX0_replace_105 : decode cX0_replace 105 = .ok (.isub, 1) := by decide +kernel
theorem dX0_replace_106 : decode cX0_replace 106 = .ok (.aload_n 0, 1) := by decide +kernel
theorem dX0_replace_107 : decode cX0_replace 107 = .ok (.getfield 9, 3) := by decide +kernel
theorem dX0_replace_110 : decode cX0_replace 110 = .ok (.aload_n 0, 1) := by decide +kernel
theorem dX0_replace_111 : decode cX0_replace 111 = .ok (.getfield 15, 3) := by decide +kernel
theorem dX0_replace_114 : decode cX0_replace 114 = .ok (.getfield 150, 3) := by decide +kernel
theorem dX0_replace_117 : decode cX0_replace 117 = .ok (.iconst 1, 1) := by decide +kernel
theorem dX0_replace_118 : decode cX0_replace 118 = .ok (.invokevirtual 153, 3) := by decide +kernel
theorem dX0_replace_121 : decode cX0_replace 121 = .ok (.isub, 1) := by decide +kernel
theorem dX0_replace_122 : decode cX0_replace 122 = .ok (.iconst 0, 1) := by decide +kernel
theorem dX0_replace_123 : decode cX0_replace 123 = .ok (.invokestatic 129, 3) := by decide +kernel
theorem dX0_replace_126 : decode cX0_replace 126 = .ok (.istore 6, 2) := by decide +kernel
theorem dX0_replace_128 : decode cX0_replace 128 = .ok (.iconst 0, 1) := by decide +kernel
theorem dX0_replace_129 : decode cX0_replace 129 = .ok (.istore 7, 2) := by decide +kernel
theorem dX0_replace_131 : decode cX0_replace 131 = .ok (.iload 7, 2) := by decide +kernel
theorem dX0_replace_133 : decode cX0_replace 133 = .ok (.iload 6, 2) := by decide +kernel
theorem dX0_replace_135 : decode cX0_replace 135 = .ok (.if_icmp .gt 30, 3) := by decide +kernel
theorem dX0_replace_138 : decode cX0_replace 138 = .ok (.aload_n 0, 1) := by decide +kernel
theorem dX0_replace_139 : decode cX0_replace 139 = .ok (.getfield 61, 3) := by decide +kernel
theorem dX0_replace_142 : decode cX0_replace 142 = .ok (.aload_n 0, 1) := by decide +kernel
theorem dX0_replace_143 : decode cX0_replace 143 = .ok (.getfield 31, 3) := by decide +kernel
theorem dX0_replace_146 : decode cX0_replace 146 = .ok (.invokevirtual 159, 3) := by decide +kernel
theorem dX0_replace_149 : decode cX0_replace 149 = .ok (.ifCond .ne 16, 3) := by decide +kernel
theorem dX0_replace_152 : decode cX0_replace 152 = .ok (.aload_n 0, 1) := by decide +kernel
theorem dX0_replace_153 : decode cX0_replace 153 = .ok (.getfield 61, 3) := by decide +kernel
theorem dX0_replace_156 : decode cX0_replace 156 = .ok (.invokevirtual 163, 3) := by decide +kernel
theorem dX0_replace_159 : decode cX0_replace 159 = .ok (.iinc 7 1, 3) := by decide +kernel
theorem dX0_replace_162 : decode cX0_replace 162 = .ok (.goto (-31), 3) := by decide +kernel
theorem dX0_replace_165 : decode cX0_replace 165 = .ok (.iload 7, 2) := by decide +kernel
theorem dX0_replace_167 : decode cX0_replace 167 = .ok (.iload 6, 2) := by decide +kernel
theorem dX0_replace_169 : decode cX0_replace 169 = .ok (.if_icmp .le 29, 3) := by decide +kernel
theorem dX0_replace_172 : decode cX0_replace 172 = .ok (.iload 6, 2) := by decide +kernel
theorem dX0_replace_174 : decode cX0_replace 174 = .ok (.istore 7, 2) := by decide +kernel
theorem dX0_replace_176 : decode cX0_replace 176 = .ok (.aload_n 0, 1) := by decide +kernel
theorem dX0_replace_177 : decode cX0_replace 177 = .ok (.getfield 31, 3) := by decide +kernel
theorem dX0_replace_180 : decode cX0_replace 180 = .ok (.aload_n 0, 1) := by decide +kernel
theorem dX0_replace_181 : decode cX0_replace 181 = .ok (.getfield 9, 3) := by decide +kernel
theorem dX0_replace_184 : decode cX0_replace 184 = .ok (.aload_n 0, 1) := by decide +kernel
theorem dX0_replace_185 : decode cX0_replace 185 = .ok (.getfield 15, 3) := by decide +kernel
theorem dX0_replace_188 : decode cX0_replace 188 = .ok (.getfield 150, 3) := by decide +kernel
theorem dX0_replace_191 : decode cX0_replace 191 = .ok (.invokevirtual 166, 3) := by decide +kernel
theorem dX0_replace_194 : decode cX0_replace 194 = .ok (.lconst 1, 1) := by decide +kernel
theorem dX0_replace_195 : decode cX0_replace 195 = .ok (.invokevirtual 170, 3) := by decide +kernel
theorem dX0_replace_198 : decode cX0_replace 198 = .ok (.iload_n 1, 1) := by decide +kernel
theorem dX0_replace_199 : decode cX0_replace 199 = .ok (.ifCond .eq 15, 3) := by decide +kernel
theorem dX0_replace_202 : decode cX0_replace 202 = .ok (.aload_n 0, 1) := by decide +kernel
theorem dX0_replace_203 : decode cX0_replace 203 = .ok (.iload 7, 2) := by decide +kernel
theorem dX0_replace_205 : decode cX0_replace 205 = .ok (.lload_n 2, 1) := by decide +kernel
theorem dX0_replace_206 : decode cX0_replace 206 = .ok (.lload 4, 2) := by decide +kernel
theorem dX0_replace_208 : decode cX0_replace 208 = .ok (.invokevirtual 174, 3) := by decide +kernel
theorem dX0_replace_211 : decode cX0_replace 211 = .ok (.goto 12, 3) := by decide +kernel
theorem dX0_replace_214 : decode cX0_replace 214 = .ok (.aload_n 0, 1) := by decide +kernel
theorem dX0_replace_215 : decode cX0_replace 215 = .ok (.iload 7, 2) := by decide +kernel
theorem dX0_replace_217 : decode cX0_replace 217 = .ok (.lload_n 2, 1) := by decide +kernel
theorem dX0_replace_218 : decode cX0_replace 218 = .ok (.lload 4, 2) := by decide +kernel
theorem dX0_replace_220 : decode cX0_replace 220 = .ok (.invokevirtual 178, 3) := by decide +kernel
theorem dX0_replace_223 : decode cX0_replace 223 = .ok (.return_, 1) := by decide +kernel
