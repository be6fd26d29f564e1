set_option maxRecDepth 20000 in
theorem ggX0_replaceFirst_X11_moveDown : GoodIn wsX0_replaceFirst wsX11_moveDown := goodIn_r _ [11] (by decide +kernel) (by decide +kernel)
set_option maxRecDepth 20000 in
theorem gX0_replaceFirst_X11_moveDown_n181 : GoodIn wsX0_replaceFirst (wsX11_moveDown) := ggX0_replaceFirst_X11_moveDown
set_option maxRecDepth 20000 in
theorem ggX0_replaceFirst_X10_append : GoodIn wsX0_replaceFirst wsX10_append := goodIn_r _ [16, 17, 18, 65, 66] (by decide +kernel) (by decide +kernel)
set_option maxRecDepth 20000 in
theorem gX0_replaceFirst_X10_append : GoodIn wsX0_replaceFirst (wsV RX0 185 RX10 yX10_append wsX10_append) := goodIn_app (goodIn_of _ (by decide +kernel)) ggX0_replaceFirst_X10_append
set_option maxRecDepth 20000 in
theorem ggX0_replaceFirst_X3_read : GoodIn wsX0_replaceFirst wsX3_read := goodIn_r _ [23, 24, 25, 26, 27, 28, 29, 65, 66, 67, 68, 69, 70, 71, 72, 73, 74, 75, 76, 77, 78, 79, 80] (by decide +kernel) (by decide +kernel)
set_option maxRecDepth 20000 in
theorem gX0_replaceFirst_X3_read : GoodIn wsX0_replaceFirst (wsV RX0 123 RX3 yX3_read wsX3_read) := goodIn_app (goodIn_of _ (by decide +kernel)) ggX0_replaceFirst_X3_read
set_option maxRecDepth 20000 in
theorem ggX0_replaceFirst_X0_open : GoodIn wsX0_replaceFirst wsX0_open := goodIn_r _ [34, 35, 36, 37, 38, 50, 51, 52, 53, 54, 55, 56, 57, 58, 59, 60, 61, 62, 63, 64] (by decide +kernel) (by decide +kernel)
set_option maxRecDepth 20000 in
theorem gX0_replaceFirst_X0_open : GoodIn wsX0_replaceFirst (wsV RX0 188 RX0 yX0_open wsX0_open) := goodIn_app (goodIn_of _ (by decide +kernel)) ggX0_replaceFirst_X0_open
set_option maxRecDepth 20000 in
theorem ggX0_replaceFirst_X10_drawFrom : GoodIn wsX0_replaceFirst wsX10_drawFrom := goodIn_r _ [42, 17, 18, 65, 66] (by decide +kernel) (by decide +kernel)
set_option maxRecDepth 20000 in
theorem gX0_replaceFirst_X10_drawFrom : GoodIn wsX0_replaceFirst (wsV RX0 75 RX10 yX10_drawFrom wsX10_drawFrom) := goodIn_app (goodIn_of _ (by decide +kernel)) ggX0_replaceFirst_X10_drawFrom
set_option maxRecDepth 20000 in
theorem ggX0_replaceFirst_X0_await : GoodIn wsX0_replaceFirst wsX0_await := goodIn_r _ [46, 47, 35, 36, 48, 49, 50, 51, 52, 53, 54, 55, 56, 57, 58, 59, 60, 61, 62, 63, 64] (by decide +kernel) (by decide +kernel)
set_option maxRecDepth 20000 in
theorem gX0_replaceFirst_X0_await : GoodIn wsX0_replaceFirst (wsV RX0 79 RX0 yX0_await wsX0_await) := goodIn_app (goodIn_of _ (by decide +kernel)) ggX0_replaceFirst_X0_await
theorem dX0_replaceFirst_0 : decode cX0_replaceFirst 0 = .ok (.aload_n 0, 1) := by decide +kernel
theorem dX0_replaceFirst_1 : decode cX0_replaceFirst 1 = .ok (.getfield 24, 3) := by decide +kernel
theorem dX0_replaceFirst_4 : decode cX0_replaceFirst 4 = .ok (.getfield 108, 3) := by decide +kernel
theorem dX0_replaceFirst_7 : decode cX0_replaceFirst 7 = .ok (.iload_n 1, 1) := by decide +kernel
theorem dX0_replaceFirst_8 : decode cX0_replaceFirst 8 = .ok (.isub, 1) := by decide +kernel
theorem dX0_replaceFirst_9 : decode cX0_replaceFirst 9 = .ok (.istore 6, 2) := by decide +kernel
theorem dX0_replaceFirst_11 : decode cX0_replaceFirst 11 = .ok (.aload_n 0, 1) := by decide +kernel
theorem dX0_replaceFirst_12 : decode cX0_replaceFirst 12 = .ok (.getfield 68, 3) := by decide +kernel
theorem dX0_replaceFirst_15 : decode cX0_replaceFirst 15 = .ok (.aload_n 0, 1) := by decide +kernel
theorem dX0_replaceFirst_16 : decode cX0_replaceFirst 16 = .ok (.getfield 31, 3) := by decide +kernel
theorem dX0_replaceFirst_19 : decode cX0_replaceFirst 19 = .ok (.getfield 108, 3) := by decide +kernel
theorem dX0_replaceFirst_22 : decode cX0_replaceFirst 22 = .ok (.iadd, 1) := by decide +kernel
theorem dX0_replaceFirst_23 : decode cX0_replaceFirst 23 = .ok (.istore 7, 2) := by decide +kernel
theorem dX0_replaceFirst_25 : decode cX0_replaceFirst 25 = .ok (.aload_n 0, 1) := by decide +kernel
theorem dX0_replaceFirst_26 : decode cX0_replaceFirst 26 = .ok (.getfield 24, 3) := by decide +kernel
theorem dX0_replaceFirst_29 : decode cX0_replaceFirst 29 = .ok (.getfield 138, 3) := by decide +kernel
theorem dX0_replaceFirst_32 : decode cX0_replaceFirst 32 = .ok (.iload 6, 2) := by decide +kernel
theorem dX0_replaceFirst_34 : decode cX0_replaceFirst 34 = .ok (.iload 7, 2) := by decide +kernel
theorem dX0_replaceFirst_36 : decode cX0_replaceFirst 36 = .ok (.iload_n 1, 1) := by decide +kernel
theorem dX0_replaceFirst_37 : decode cX0_replaceFirst 37 = .ok (.invokestatic 181, 3) := by decide +kernel
theorem dX0_replaceFirst_40 : decode cX0_replaceFirst 40 = .ok (.aload_n 0, 1) := by decide +kernel
theorem dX0_replaceFirst_41 : decode cX0_replaceFirst 41 = .ok (.getfield 34, 3) := by decide +kernel
theorem dX0_replaceFirst_44 : decode cX0_replaceFirst 44 = .ok (.iload 6, 2) := by decide +kernel
theorem dX0_replaceFirst_46 : decode cX0_replaceFirst 46 = .ok (.iconst 1, 1) := by decide +kernel
theorem dX0_replaceFirst_47 : decode cX0_replaceFirst 47 = .ok (.iadd, 1) := by decide +kernel
theorem dX0_replaceFirst_48 : decode cX0_replaceFirst 48 = .ok (.iload 7, 2) := by decide +kernel
theorem dX0_replaceFirst_50 : decode cX0_replaceFirst 50 = .ok (.iconst 1, 1) := by decide +kernel
theorem dX0_replaceFirst_51 : decode cX0_replaceFirst 51 = .ok (.iadd, 1) := by decide +kernel
theorem dX0_replaceFirst_52 : decode cX0_replaceFirst 52 = .ok (.iload_n 1, 1) := by decide +kernel
theorem dX0_replaceFirst_53 : decode cX0_replaceFirst 53 = .ok (.invokestatic 181, 3) := by decide +kernel
theorem dX0_replaceFirst_56 : decode cX0_replaceFirst 56 = .ok (.aload_n 0, 1) := by decide +kernel
theorem dX0_replaceFirst_57 : decode cX0_replaceFirst 57 = .ok (.getfield 24, 3) := by decide +kernel
theorem dX0_replaceFirst_60 : decode cX0_replaceFirst 60 = .ok (.aload_n 0, 1) := by decide +kernel
theorem dX0_replaceFirst_61 : decode cX0_replaceFirst 61 = .ok (.getfield 68, 3) := by decide +kernel
theorem dX0_replaceFirst_64 : decode cX0_replaceFirst 64 = .ok (.putfield 108, 3) := by decide +kernel
theorem dX0_replaceFirst_67 : decode cX0_replaceFirst 67 = .ok (.aload_n 0, 1) := by decide +kernel
theorem dX0_replaceFirst_68 : decode cX0_replaceFirst 68 = .ok (.getfield 24, 3) := by decide +kernel
theorem dX0_replaceFirst_71 : decode cX0_replaceFirst 71 = .ok (.aload_n 0, 1) := by decide +kernel
theorem dX0_replaceFirst_72 : decode cX0_replaceFirst 72 = .ok (.getfield 31, 3) := by decide +kernel
theorem dX0_replaceFirst_75 : decode cX0_replaceFirst 75 = .ok (.invokevirtual 185, 3) := by decide +kernel
theorem dX0_replaceFirst_78 : decode cX0_replaceFirst 78 = .ok (.pop, 1) := by decide +kernel
theorem dX0_replaceFirst_79 : decode cX0_replaceFirst 79 = .ok (.aload_n 0, 1) := by decide +kernel
theorem dX0_replaceFirst_80 : decode cX0_replaceFirst 80 = .ok (.getfield 24, 3) := by decide +kernel
theorem dX0_replaceFirst_83 : decode cX0_replaceFirst 83 = .ok (.dup, 1) := by decide +kernel
theorem dX0_replaceFirst_84 : decode cX0_replaceFirst 84 = .ok (.getfield 108, 3) := by decide +kernel
theorem dX0_replaceFirst_87 : decode cX0_replaceFirst 87 = .ok (.iload_n 1, 1) := by decide +kernel
theorem dX0_replaceFirst_88 : decode cX0_replaceFirst 88 = .ok (.iadd, 1) := by decide +kernel
theorem dX0_replaceFirst_89 : decode cX0_replaceFirst 89 = .ok (.putfield 108, 3) := by decide +kernel
theorem dX0_replaceFirst_92 : decode cX0_replaceFirst 92 = .ok (.aload_n 0, 1) := by decide +kernel
theorem dX0_replaceFirst_93 : decode cX0_replaceFirst 93 = .ok (.getfield 15, 3) := by decide +kernel
theorem dX0_replaceFirst_96 : decode cX0_replaceFirst 96 = .ok (.aload_n 0, 1) := by decide +kernel
theorem dX0_replaceFirst_97 : decode cX0_replaceFirst 97 = .ok (.getfield 24, 3) := by decide +kernel
theorem dX0_replaceFirst_100 : decode cX0_replaceFirst 100 = .ok (.aload_n 0, 1) := by decide +kernel
theorem dX0_replaceFirst_101 : decode cX0_replaceFirst 101 = .ok (.getfield 34, 3) := by decide +kernel
theorem dX0_replaceFirst_104 : decode cX0_replaceFirst 104 = .ok (.aload_n 0, 1) := by decide +kernel
theorem dX0_replaceFirst_105 : decode cX0_replaceFirst 105 = .ok (.getfield 68, 3) := by decide +kernel
theorem dX0_replaceFirst_108 : decode cX0_replaceFirst 108 = .ok (.iload 7, 2) := by decide +kernel
theorem dX0_replaceFirst_110 : decode cX0_replaceFirst 110 = .ok (.invokevirtual 123, 3) := by decide +kernel
theorem dX0_replaceFirst_113 : decode cX0_replaceFirst 113 = .ok (.istore 8, 2) := by decide +kernel
theorem dX0_replaceFirst_115 : decode cX0_replaceFirst 115 = .ok (.iload 8, 2) := by decide +kernel
theorem dX0_replaceFirst_117 : decode cX0_replaceFirst 117 = .ok (.ifCond .ge 4, 3) := by decide +kernel
theorem dX0_replaceFirst_120 : decode cX0_replaceFirst 120 = .ok (.return_, 1) := by decide +kernel
theorem dX0_replaceFirst_121 : decode cX0_replaceFirst 121 = .ok (.iload 8, 2) := by decide +kernel
theorem dX0_replaceFirst_123 : decode cX0_replaceFirst 123 = .ok (.iload 7, 2) := by decide +kernel
theorem dX0_replaceFirst_125 : decode cX0_replaceFirst 125 = .ok (.if_icmp .ge 7, 3) := by decide +kernel
theorem dX0_replaceFirst_128 : decode cX0_replaceFirst 128 = .ok (.iconst 1, 1) := by decide +kernel
theorem dX0_replaceFirst_129 : decode cX0_replaceFirst 129 = .ok (.goto 4, 3) := by decide +kernel
theorem dX0_replaceFirst_132 : decode cX0_replaceFirst 132 = .ok (.iconst 0, 1) := by decide +kernel
theorem dX0_replaceFirst_133 : decode cX0_replaceFirst 133 = .ok (.istore 9, 2) := by decide +kernel
theorem dX0_replaceFirst_135 : decode cX0_replaceFirst 135 = .ok (.aload_n 0, 1) := by decide +kernel
theorem dX0_replaceFirst_136 : decode cX0_replaceFirst 136 = .ok (.lload_n 2, 1) := by decide +kernel
theorem dX0_replaceFirst_137 : decode cX0_replaceFirst 137 = .ok (.lload 4, 2) := by decide +kernel
theorem dX0_replaceFirst_139 : decode cX0_replaceFirst 139 = .ok (.invokevirtual 188, 3) := by decide +kernel
theorem dX0_replaceFirst_142 : decode cX0_replaceFirst 142 = .ok (.istore 10, 2) := by decide +kernel
theorem dX0_replaceFirst_144 : decode cX0_replaceFirst 144 = .ok (.aload_n 0, 1) := by decide +kernel
theorem dX0_replaceFirst_145 : decode cX0_replaceFirst 145 = .ok (.iconst 0, 1) := by decide +kernel
theorem dX0_replaceFirst_146 : decode cX0_replaceFirst 146 = .ok (.aload_n 0, 1) := by decide +kernel
theorem dX0_replaceFirst_147 : decode cX0_replaceFirst 147 = .ok (.getfield 28, 3) := by decide +kernel
theorem dX0_replaceFirst_150 : decode cX0_replaceFirst 150 = .ok (.aload_n 0, 1) := by decide +kernel
theorem dX0_replaceFirst_151 : decode cX0_replaceFirst 151 = .ok (.getfield 24, 3) := by decide +kernel
theorem dX0_replaceFirst_154 : decode cX0_replaceFirst 154 = .ok (.iload 9, 2) := by decide +kernel
theorem dX0_replaceFirst_156 : decode cX0_replaceFirst 156 = .ok (.ifCond .eq 10, 3) := by decide +kernel
theorem dX0_replaceFirst_159 : decode cX0_replaceFirst 159 = .ok (.aload_n 0, 1) := by decide +kernel
theorem dX0_replaceFirst_160 : decode cX0_replaceFirst 160 = .ok (.getfield 68, 3) := by decide +kernel
theorem dX0_replaceFirst_163 : decode cX0_replaceFirst 163 = .ok (.goto 5, 3) := by decide +kernel
theorem dX0_replaceFirst_166 : decode cX0_replaceFirst 166 = .ok (.iload 7, 2) := by decide +kernel
theorem dX0_replaceFirst_168 : decode cX0_replaceFirst 168 = .ok (.invokevirtual 75, 3) := by decide +kernel
theorem dX0_replaceFirst_171 : decode cX0_replaceFirst 171 = .ok (.iload 10, 2) := by decide +kernel
theorem dX0_replaceFirst_173 : decode cX0_replaceFirst 173 = .ok (.ifCond .ne 8, 3) := by decide +kernel
theorem dX0_replaceFirst_176 : decode cX0_replaceFirst 176 = .ok (.iload 9, 2) := by decide +kernel
theorem dX0_replaceFirst_178 : decode cX0_replaceFirst 178 = .ok (.ifCond .eq 7, 3) := by decide +kernel
theorem dX0_replaceFirst_181 : decode cX0_replaceFirst 181 = .ok (.iconst 1, 1) := by decide +kernel
theorem dX0_replaceFirst_182 : decode cX0_replaceFirst 182 = .ok (.goto 4, 3) := by decide +kernel
theorem dX0_replaceFirst_185 : decode cX0_replaceFirst 185 = .ok (.iconst 0, 1) := by decide +kernel
theorem dX0_replaceFirst_186 : decode cX0_replaceFirst 186 = .ok (.invokevirtual 79, 3) := by decide +kernel
theorem dX0_replaceFirst_189 : decode cX0_replaceFirst 189 = .ok (.return_, 1) := by decide +kernel
set_option maxRecDepth 20000 in
theorem ggX0_replaceLast_X10_append : GoodIn wsX0_replaceLast wsX10_append := goodIn_r _ [12, 13, 14, 61, 62] (by decide +kernel) (by decide +kernel)
set_option maxRecDepth 20000 in
theorem gX0_replaceLast_X10_append : GoodIn wsX0_replaceLast (wsV RX0 185 RX10 yX10_append wsX10_append) := goodIn_app (goodIn_of _ (by decide +kernel)) ggX0_replaceLast_X10_append
set_option maxRecDepth 20000 in
theorem ggX0_replaceLast_X3_read : GoodIn wsX0_replaceLast wsX3_read := goodIn_r _ [19, 20, 21, 22, 23, 24, 25, 61, 62, 63, 64, 65, 66, 67, 68, 69, 70, 71, 72, 73, 74, 75, 76] (by decide +kernel) (by decide +kernel)
set_option maxRecDepth 20000 in
theorem gX0_replaceLast_X3_read : GoodIn wsX0_replaceLast (wsV RX0 123 RX3 yX3_read wsX3_read) := goodIn_app (goodIn_of _ (by decide +kernel)) ggX0_replaceLast_X3_read
set_option maxRecDepth 20000 in
theorem ggX0_replaceLast_X0_open : GoodIn wsX0_replaceLast wsX0_open := goodIn_r _ [30, 31, 32, 33, 34, 46, 47, 48, 49, 50, 51, 52, 53, 54, 55, 56, 57, 58, 59, 60] (by decide +kernel) (by decide +kernel)
set_option maxRecDepth 20000 in
theorem gX0_replaceLast_X0_open : GoodIn wsX0_replaceLast (wsV RX0 188 RX0 yX0_open wsX0_open) := goodIn_app (goodIn_of _ (by decide +kernel)) ggX0_replaceLast_X0_open
set_option maxRecDepth 20000 in
theorem ggX0_replaceLast_X0_await : GoodIn wsX0_replaceLast wsX0_await := goodIn_r _ [38, 39, 31, 32, 40, 41, 46, 47, 48, 49, 50, 51, 52, 53, 54, 55, 56, 57, 58, 59, 60] (by decide +kernel) (by decide +kernel)
set_option maxRecDepth 20000 in
theorem gX0_replaceLast_X0_await : GoodIn wsX0_replaceLast (wsV RX0 79 RX0 yX0_await wsX0_await) := goodIn_app (goodIn_of _ (by decide +kernel)) ggX0_replaceLast_X0_await
set_option maxRecDepth 20000 in
theorem ggX0_replaceLast_X10_drawFrom : GoodIn wsX0_replaceLast wsX10_drawFrom := goodIn_r _ [45, 13, 14, 61, 62] (by decide +kernel) (by decide +kernel)
set_option maxRecDepth 20000 in
theorem gX0_replaceLast_X10_drawFrom : GoodIn wsX0_replaceLast (wsV RX0 75 RX10 yX10_drawFrom wsX10_drawFrom) := goodIn_app (goodIn_of _ (by decide +kernel)) ggX0_replaceLast_X10_drawFrom
theorem dX0_replaceLast_0 : decode cX0_replaceLast 0 = .ok (.aload_n 0, 1) := by decide +kernel
theorem dX0_replaceLast_1 : decode cX0_replaceLast 1 = .ok (.getfield 68, 3) := by decide +kernel
theorem dX0_replaceLast_4 : decode cX0_replaceLast 4 = .ok (.iload_n 1, 1) := by decide +kernel
theorem dX0_replaceLast_5 : decode cX0_replaceLast 5 = .ok (.iadd, 1) := by decide +kernel
theorem dX0_replaceLast_6 : decode cX0_replaceLast 6 = .ok (.istore 6, 2) := by decide +kernel
theorem dX0_replaceLast_8 : decode cX0_replaceLast 8 = .ok (.aload_n 0, 1) := by decide +kernel
theorem dX0_replaceLast_9 : decode cX0_replaceLast 9 = .ok (.getfield 24, 3) := by decide +kernel
theorem dX0_replaceLast_12 : decode cX0_replaceLast 12 = .ok (.iload 6, 2) := by decide +kernel
theorem dX0_replaceLast_14 : decode cX0_replaceLast 14 = .ok (.putfield 108, 3) := by decide +kernel
theorem dX0_replaceLast_17 : decode cX0_replaceLast 17 = .ok (.aload_n 0, 1) := by decide +kernel
theorem dX0_replaceLast_18 : decode cX0_replaceLast 18 = .ok (.getfield 24, 3) := by decide +kernel
theorem dX0_replaceLast_21 : decode cX0_replaceLast 21 = .ok (.aload_n 0, 1) := by decide +kernel
theorem dX0_replaceLast_22 : decode cX0_replaceLast 22 = .ok (.getfield 31, 3) := by decide +kernel
theorem dX0_replaceLast_25 : decode cX0_replaceLast 25 = .ok (.invokevirtual 185, 3) := by decide +kernel
theorem dX0_replaceLast_28 : decode cX0_replaceLast 28 = .ok (.pop, 1) := by decide +kernel
theorem dX0_replaceLast_29 : decode cX0_replaceLast 29 = .ok (.aload_n 0, 1) := by decide +kernel
theorem dX0_replaceLast_30 : decode cX0_replaceLast 30 = .ok (.getfield 15, 3) := by decide +kernel
theorem dX0_replaceLast_33 : decode cX0_replaceLast 33 = .ok (.aload_n 0, 1) := by decide +kernel
theorem dX0_replaceLast_34 : decode cX0_replaceLast 34 = .ok (.getfield 24, 3) := by decide +kernel
theorem dX0_replaceLast_37 : decode cX0_replaceLast 37 = .ok (.aload_n 0, 1) := by decide +kernel
theorem dX0_replaceLast_38 : decode cX0_replaceLast 38 = .ok (.getfield 34, 3) := by decide +kernel
theorem dX0_replaceLast_41 : decode cX0_replaceLast 41 = .ok (.iload 6, 2) := by decide +kernel
theorem dX0_replaceLast_43 : decode cX0_replaceLast 43 = .ok (.aload_n 0, 1) := by decide +kernel
theorem dX0_replaceLast_44 : decode cX0_replaceLast 44 = .ok (.getfield 24, 3) := by decide +kernel
theorem dX0_replaceLast_47 : decode cX0_replaceLast 47 = .ok (.getfield 108, 3) := by decide +kernel
theorem dX0_replaceLast_50 : decode cX0_replaceLast 50 = .ok (.invokevirtual 123, 3) := by decide +kernel
theorem dX0_replaceLast_53 : decode cX0_replaceLast 53 = .ok (.ifCond .ge 4, 3) := by decide +kernel
theorem dX0_replaceLast_56 : decode cX0_replaceLast 56 = .ok (.return_, 1) := by decide +kernel
theorem dX0_replaceLast_57 : decode cX0_replaceLast 57 = .ok (.aload_n 0, 1) := by decide +kernel
theorem dX0_replaceLast_58 : decode cX0_replaceLast 58 = .ok (.lload_n 2, 1) := by decide +kernel
theorem dX0_replaceLast_59 : decode cX0_replaceLast 59 = .ok (.lload 4, 2) := by decide +kernel
theorem dX0_replaceLast_61 : decode cX0_replaceLast 61 = .ok (.invokevirtual 188, 3) := by decide +kernel
theorem dX0_replaceLast_64 : decode cX0_replaceLast 64 = .ok (.istore 7, 2) := by decide +kernel
theorem dX0_replaceLast_66 : decode cX0_replaceLast 66 = .ok (.aload_n 0, 1) := by decide +kernel
theorem dX0_replaceLast_67 : decode cX0_replaceLast 67 = .ok (.getfield 34, 3) := by decide +kernel
theorem dX0_replaceLast_70 : decode cX0_replaceLast 70 = .ok (.iload 6, 2) := by decide +kernel
theorem dX0_replaceLast_72 : decode cX0_replaceLast 72 = .ok (.iconst 0, 1) := by decide +kernel
theorem dX0_replaceLast_73 : decode cX0_replaceLast 73 = .ok (.iastore, 1) := by decide +kernel
theorem dX0_replaceLast_74 : decode cX0_replaceLast 74 = .ok (.aload_n 0, 1) := by decide +kernel
theorem dX0_replaceLast_75 : decode cX0_replaceLast 75 = .ok (.getfield 15, 3) := by decide +kernel
theorem dX0_replaceLast_78 : decode cX0_replaceLast 78 = .ok (.aload_n 0, 1) := by decide +kernel
theorem dX0_replaceLast_79 : decode cX0_replaceLast 79 = .ok (.getfield 24, 3) := by decide +kernel
theorem dX0_replaceLast_82 : decode cX0_replaceLast 82 = .ok (.aload_n 0, 1) := by decide +kernel
theorem dX0_replaceLast_83 : decode cX0_replaceLast 83 = .ok (.getfield 34, 3) := by decide +kernel
theorem dX0_replaceLast_86 : decode cX0_replaceLast 86 = .ok (.iload 6, 2) := by decide +kernel
theorem dX0_replaceLast_88 : decode cX0_replaceLast 88 = .ok (.aload_n 0, 1) := by decide +kernel
theorem dX0_replaceLast_89 : decode cX0_replaceLast 89 = .ok (.getfield 24, 3) := by decide +kernel
theorem dX0_replaceLast_92 : decode cX0_replaceLast 92 = .ok (.getfield 108, 3) := by decide +kernel
theorem dX0_replaceLast_95 : decode cX0_replaceLast 95 = .ok (.invokevirtual 123, 3) := by decide +kernel
theorem dX0_replaceLast_98 : decode cX0_replaceLast 98 = .ok (.ifCond .ge 20, 3) := by decide +kernel
theorem dX0_replaceLast_101 : decode cX0_replaceLast 101 = .ok (.aload_n 0, 1) := by decide +kernel
theorem dX0_replaceLast_102 : decode cX0_replaceLast 102 = .ok (.iload 6, 2) := by decide +kernel
theorem dX0_replaceLast_104 : decode cX0_replaceLast 104 = .ok (.putfield 68, 3) := by decide +kernel
theorem dX0_replaceLast_107 : decode cX0_replaceLast 107 = .ok (.aload_n 0, 1) := by decide +kernel
theorem dX0_replaceLast_108 : decode cX0_replaceLast 108 = .ok (.iconst 1, 1) := by decide +kernel
theorem dX0_replaceLast_109 : decode cX0_replaceLast 109 = .ok (.iload_n 1, 1) := by decide +kernel
theorem dX0_replaceLast_110 : decode cX0_replaceLast 110 = .ok (.iload 7, 2) := by decide +kernel
theorem dX0_replaceLast_112 : decode cX0_replaceLast 112 = .ok (.invokevirtual 79, 3) := by decide +kernel
theorem dX0_replaceLast_115 : decode cX0_replaceLast 115 = .ok (.goto 24, 3) := by decide +kernel
theorem dX0_replaceLast_118 : decode cX0_replaceLast 118 = .ok (.aload_n 0, 1) := by decide +kernel
theorem dX0_replaceLast_119 : decode cX0_replaceLast 119 = .ok (.iconst 0, 1) := by decide +kernel
theorem dX0_replaceLast_120 : decode cX0_replaceLast 120 = .ok (.aload_n 0, 1) := by decide +kernel
theorem dX0_replaceLast_121 : decode cX0_replaceLast 121 = .ok (.getfield 28, 3) := by decide +kernel
theorem dX0_replaceLast_124 : decode cX0_replaceLast 124 = .ok (.aload_n 0, 1) := by decide +kernel
theorem dX0_replaceLast_125 : decode cX0_replaceLast 125 = .ok (.getfield 24, 3) := by decide +kernel
theorem dX0_replaceLast_128 : decode cX0_replaceLast 128 = .ok (.aload_n 0, 1) := by decide +kernel
theorem dX0_replaceLast_129 : decode cX0_replaceLast 129 = .ok (.getfield 68, 3) := by decide +kernel
theorem dX0_replaceLast_132 : decode cX0_replaceLast 132 = .ok (.invokevirtual 75, 3) := by decide +kernel
theorem dX0_replaceLast_135 : decode cX0_replaceLast 135 = .ok (.iconst 1, 1) := by decide +kernel
theorem dX0_replaceLast_136 : decode cX0_replaceLast 136 = .ok (.invokevirtual 79, 3) := by decide +kernel
theorem dX0_replaceLast_139 : decode cX0_replaceLast 139 = .ok (.return_, 1) := by decide +kernel
set_option maxRecDepth 20000 in
theorem ggX0_run_X10_wipe : GoodIn wsX0_run wsX10_wipe := goodIn_r _ [14, 15, 190, 191] (by decide +kernel) (by decide +kernel)
set_option maxRecDepth 20000 in
theorem gX0_run_X10_wipe : GoodIn wsX0_run (wsV RX0 65 RX10 yX10_wipe wsX10_wipe) := goodIn_app (goodIn_of _ (by decide +kernel)) ggX0_run_X10_wipe
set_option maxRecDepth 20000 in
theorem ggX0_run_X10_drawFrom : GoodIn wsX0_run wsX10_drawFrom := goodIn_r _ [19, 15, 20, 190, 191] (by decide +kernel) (by decide +kernel)
set_option maxRecDepth 20000 in
theorem gX0_run_X10_drawFrom : GoodIn wsX0_run (wsV RX0 75 RX10 yX10_drawFrom wsX10_drawFrom) := goodIn_app (goodIn_of _ (by decide +kernel)) ggX0_run_X10_drawFrom
set_option maxRecDepth 20000 in
theorem ggX0_run_X0_await : GoodIn wsX0_run wsX0_await := goodIn_r _ [25, 7, 5, 26, 27, 28, 175, 176, 177, 178, 179, 180, 181, 182, 183, 184, 185, 186, 187, 188, 189] (by decide +kernel) (by decide +kernel)
set_option maxRecDepth 20000 in
theorem gX0_run_X0_await : GoodIn wsX0_run (wsV RX0 79 RX0 yX0_await wsX0_await) := goodIn_app (goodIn_of _ (by decide +kernel)) ggX0_run_X0_await
set_option maxRecDepth 20000 in
theorem ggX0_run_X0_growOn : GoodIn wsX0_run wsX0_growOn := goodIn_r _ [32, 26, 5, 28, 27, 9, 33, 34, 3, 7, 1, 35, 36, 37, 38, 24, 39, 2, 40, 4, 41, 42, 43, 44, 45, 46, 47, 13, 48, 15, 20, 49, 50, 51, 52, 53, 54, 55, 56, 57, 58, 59, 60, 61, 62, 63, 64, 65, 66, 67, 68, 69, 70, 71, 72, 73, 74, 75, 76, 77, 78, 79, 80, 81, 82, 83, 84, 85, 86, 87, 88, 89, 90, 91, 92, 93, 94, 175, 176, 177, 178, 179, 180, 181, 182, 183, 184, 185, 186, 187, 188, 189, 190, 191, 192, 193, 194, 195, 196, 197, 198, 199, 200, 201, 202, 203, 204, 205, 206, 207, 208, 209, 210, 211, 212] rfl (by decide +kernel)
set_option maxRecDepth 20000 in
theorem gX0_run_X0_growOn : GoodIn wsX0_run (wsV RX0 85 RX0 yX0_growOn wsX0_growOn) := goodIn_app (goodIn_of _ (by decide +kernel)) ggX0_run_X0_growOn
set_option maxRecDepth 20000 in
theorem ggX0_run_X10_take : GoodIn wsX0_run wsX10_take := goodIn_r _ [98, 15, 20, 99, 100, 43, 101, 190, 191] (by decide +kernel) (by decide +kernel)
set_option maxRecDepth 20000 in
theorem gX0_run_X10_take : GoodIn wsX0_run (wsV RX0 89 RX10 yX10_take wsX10_take) := goodIn_app (goodIn_of _ (by decide +kernel)) ggX0_run_X10_take
set_option maxRecDepth 20000 in
theorem ggX0_run_X0_replace : GoodIn wsX0_run wsX0_replace := goodIn_r _ [105, 9, 3, 1, 35, 106, 107, 108, 109, 40, 110, 41, 42, 43, 44, 111, 112, 113, 114, 67, 115, 116, 69, 70, 117, 118, 119, 120, 121, 122, 123, 124, 125, 126, 127, 128, 129, 130, 131, 132, 133, 79, 80, 81, 82, 84, 85, 86, 87, 88, 89, 134, 135, 136, 13, 137, 15, 20, 138, 139, 72, 73, 74, 140, 141, 142, 143, 144, 145, 146, 147, 148, 24, 149, 4, 2, 150, 151, 152, 153, 154, 155, 156, 53, 54, 55, 56, 57, 58, 59, 60, 61, 62, 63, 157, 158, 159, 160, 5, 26, 33, 34, 16, 17, 18, 19, 21, 22, 23, 25, 7, 27, 28, 161, 162, 163, 164, 175, 176, 177, 178, 179, 180, 181, 182, 183, 184, 185, 186, 187, 188, 189, 190, 191, 206, 207, 208, 209, 210, 211, 212, 192, 193, 194, 195, 196, 197, 198, 199, 200, 201, 213, 214, 215, 216, 217, 218, 219, 202, 203, 204, 205] rfl (by decide +kernel)
set_option maxRecDepth 20000 in
theorem gX0_run_X0_replace : GoodIn wsX0_run (wsV RX0 93 RX0 yX0_replace wsX0_replace) := goodIn_app (goodIn_of _ (by decide +kernel)) ggX0_run_X0_replace
set_option maxRecDepth 20000 in
theorem ggX0_run_X2_widen : GoodIn wsX0_run wsX2_widen := goodIn_r _ [168, 79, 169, 170, 171, 172, 67, 173, 174, 80, 81, 82, 83, 206, 207, 208, 209, 210, 211, 212] (by decide +kernel) (by decide +kernel)
set_option maxRecDepth 20000 in
theorem gX0_run_X2_widen : GoodIn wsX0_run (wsV RX0 99 RX2 yX2_widen wsX2_widen) := goodIn_app (goodIn_of _ (by decide +kernel)) ggX0_run_X2_widen
theorem dX0_run_0 : decode cX0_run 0 = .ok (.aload_n 0, 1) := by decide +kernel
theorem dX0_run_1 : decode cX0_run 1 = .ok (.getfield 24, 3) := by decide +kernel
theorem dX0_run_4 : decode cX0_run 4 = .ok (.invokevirtual 65, 3) := by decide +kernel
theorem dX0_run_7 : decode cX0_run 7 = .ok (.aload_n 0, 1) := by decide +kernel
theorem dX0_run_8 : decode cX0_run 8 = .ok (.getfield 28, 3) := by decide +kernel
theorem dX0_run_11 : decode cX0_run 11 = .ok (.invokevirtual 65, 3) := by decide +kernel
theorem dX0_run_14 : decode cX0_run 14 = .ok (.aload_n 0, 1) := by decide +kernel
theorem dX0_run_15 : decode cX0_run 15 = .ok (.iconst 0, 1) := by decide +kernel
theorem dX0_run_16 : decode cX0_run 16 = .ok (.putfield 68, 3) := by decide +kernel
theorem dX0_run_19 : decode cX0_run 19 = .ok (.aload_n 0, 1) := by decide +kernel
theorem dX0_run_20 : decode cX0_run 20 = .ok (.getfield 34, 3) := by decide +kernel
theorem dX0_run_23 : decode cX0_run 23 = .ok (.aload_n 0, 1) := by decide +kernel
theorem dX0_run_24 : decode cX0_run 24 = .ok (.getfield 68, 3) := by decide +kernel
theorem dX0_run_27 : decode cX0_run 27 = .ok (.iconst 0, 1) := by decide +kernel
theorem dX0_run_28 : decode cX0_run 28 = .ok (.iastore, 1) := by decide +kernel
theorem dX0_run_29 : decode cX0_run 29 = .ok (.aload_n 0, 1) := by decide +kernel
theorem dX0_run_30 : decode cX0_run 30 = .ok (.iconst 0, 1) := by decide +kernel
theorem dX0_run_31 : decode cX0_run 31 = .ok (.putfield 72, 3) := by decide +kernel
theorem dX0_run_34 : decode cX0_run 34 = .ok (.aload_n 0, 1) := by decide +kernel
theorem dX0_run_35 : decode cX0_run 35 = .ok (.iconst 0, 1) := by decide +kernel
theorem dX0_run_36 : decode cX0_run 36 = .ok (.aload_n 0, 1) := by decide +kernel
theorem dX0_run_37 : decode cX0_run 37 = .ok (.getfield 28, 3) := by decide +kernel
theorem dX0_run_40 : decode cX0_run 40 = .ok (.aload_n 1, 1) := by decide +kernel
theorem dX0_run_41 : decode cX0_run 41 = .ok (.iconst 0, 1) := by decide +kernel
theorem dX0_run_42 : decode cX0_run 42 = .ok (.invokevirtual 75, 3) := by decide +kernel
theorem dX0_run_45 : decode cX0_run 45 = .ok (.iconst 1, 1) := by decide +kernel
theorem dX0_run_46 : decode cX0_run 46 = .ok (.invokevirtual 79, 3) := by decide +kernel
theorem dX0_run_49 : decode cX0_run 49 = .ok (.lconst 0, 1) := by decide +kernel
theorem dX0_run_50 : decode cX0_run 50 = .ok (.lstore_n 2, 1) := by decide +kernel
theorem dX0_run_51 : decode cX0_run 51 = .ok (.lload_n 2, 1) := by decide +kernel
theorem dX0_run_52 : decode cX0_run 52 = .ok (.ldc2_w 83, 3) := by decide +kernel
theorem dX0_run_55 : decode cX0_run 55 = .ok (.lcmp, 1) := by decide +kernel
theorem dX0_run_56 : decode cX0_run 56 = .ok (.ifCond .ge 77, 3) := by decide +kernel
theorem dX0_run_59 : decode cX0_run 59 = .ok (.lconst 0, 1) := by decide +kernel
theorem dX0_run_60 : decode cX0_run 60 = .ok (.lstore 4, 2) := by decide +kernel
theorem dX0_run_62 : decode cX0_run 62 = .ok (.lload 4, 2) := by decide +kernel
theorem dX0_run_64 : decode cX0_run 64 = .ok (.ldc2_w 83, 3) := by decide +kernel
theorem dX0_run_67 : decode cX0_run 67 = .ok (.lcmp, 1) := by decide +kernel
theorem dX0_run_68 : decode cX0_run 68 = .ok (.ifCond .ge 58, 3) := by decide +kernel
theorem dX0_run_71 : decode cX0_run 71 = .ok (.aload_n 0, 1) := by decide +kernel
theorem dX0_run_72 : decode cX0_run 72 = .ok (.invokevirtual 85, 3) := by decide +kernel
theorem dX0_run_75 : decode cX0_run 75 = .ok (.ifCond .ne 13, 3) := by decide +kernel
theorem dX0_run_78 : decode cX0_run 78 = .ok (.aload_n 1, 1) := by decide +kernel
theorem dX0_run_79 : decode cX0_run 79 = .ok (.aload_n 0, 1) := by decide +kernel
theorem dX0_run_80 : decode cX0_run 80 = .ok (.getfield 24, 3) := by decide +kernel
theorem dX0_run_83 : decode cX0_run 83 = .ok (.invokevirtual 89, 3) := by decide +kernel
theorem dX0_run_86 : decode cX0_run 86 = .ok (.iconst 1, 1) := by decide +kernel
theorem dX0_run_87 : decode cX0_run 87 = .ok (.ireturn, 1) := by decide +kernel
theorem dX0_run_88 : decode cX0_run 88 = .ok (.aload_n 0, 1) := by decide +kernel
theorem dX0_run_89 : decode cX0_run 89 = .ok (.aload_n 0, 1) := by decide +kernel
theorem dX0_run_90 : decode cX0_run 90 = .ok (.getfield 51, 3) := by decide +kernel
theorem dX0_run_93 : decode cX0_run 93 = .ok (.aload_n 0, 1) := by decide +kernel
theorem dX0_run_94 : decode cX0_run 94 = .ok (.getfield 72, 3) := by decide +kernel
theorem dX0_run_97 : decode cX0_run 97 = .ok (.baload, 1) := by decide +kernel
theorem dX0_run_98 : decode cX0_run 98 = .ok (.invokevirtual 93, 3) := by decide +kernel
theorem dX0_run_101 : decode cX0_run 101 = .ok (.lload 4, 2) := by decide +kernel
theorem dX0_run_103 : decode cX0_run 103 = .ok (.ldc2_w 97, 3) := by decide +kernel
theorem dX0_run_106 : decode cX0_run 106 = .ok (.lcmp, 1) := by decide +kernel
theorem dX0_run_107 : decode cX0_run 107 = .ok (.ifCond .ne 10, 3) := by decide +kernel
theorem dX0_run_110 : decode cX0_run 110 = .ok (.aload_n 0, 1) := by decide +kernel
theorem dX0_run_111 : decode cX0_run 111 = .ok (.getfield 61, 3) := by decide +kernel
theorem dX0_run_114 : decode cX0_run 114 = .ok (.invokevirtual 99, 3) := by decide +kernel
theorem dX0_run_117 : decode cX0_run 117 = .ok (.lload 4, 2) := by decide +kernel
theorem dX0_run_119 : decode cX0_run 119 = .ok (.lconst 1, 1) := by decide +kernel
theorem dX0_run_120 : decode cX0_run 120 = .ok (.ladd, 1) := by decide +kernel
theorem dX0_run_121 : decode cX0_run 121 = .ok (.lstore 4, 2) := by decide +kernel
theorem dX0_run_123 : decode cX0_run 123 = .ok (.goto (-61), 3) := by decide +kernel
theorem dX0_run_126 : decode cX0_run 126 = .ok (.lload_n 2, 1) := by decide +kernel
theorem dX0_run_127 : decode cX0_run 127 = .ok (.lconst 1, 1) := by decide +kernel
theorem dX0_run_128 : decode cX0_run 128 = .ok (.ladd, 1) := by decide +kernel
theorem dX0_run_129 : decode cX0_run 129 = .ok (.lstore_n 2, 1) := by decide +kernel
theorem dX0_run_130 : decode cX0_run 130 = .ok (.goto (-79), 3) := by decide +kernel
theorem dX0_run_133 : decode cX0_run 133 = .ok (.iconst 0, 1) := by decide +kernel
theorem dX0_run_134 : decode cX0_run 134 = .ok (.ireturn, 1) := by decide +kernel
theorem dX10_append_0 : decode cX10_append 0 = .ok (.aload_n 0, 1) := by decide +kernel
theorem dX10_append_1 : decode cX10_append 1 = .ok (.getfield 21, 3) := by decide +kernel
theorem dX10_append_4 : decode cX10_append 4 = .ok (.aload_n 1, 1) := by decide +kernel
theorem dX10_append_5 : decode cX10_append 5 = .ok (.getfield 21, 3) := by decide +kernel
theorem dX10_append_8 : decode cX10_append 8 = .ok (.iadd, 1) := by decide +kernel
theorem dX10_append_9 : decode cX10_append 9 = .ok (.aload_n 0, 1) := by decide +kernel
theorem dX10_append_10 : decode cX10_append 10 = .ok (.getfield 15, 3) := by decide +kernel
theorem dX10_append_13 : decode cX10_append 13 = .ok (.arraylength, 1) := by decide +kernel
theorem dX10_append_14 : decode cX10_append 14 = .ok (.if_icmp .le 5, 3) := by decide +kernel
theorem dX10_append_17 : decode cX10_append 17 = .ok (.iconst 0, 1) := by decide +kernel
theorem dX10_append_18 : decode cX10_append 18 = .ok (.ireturn, 1) := by decide +kernel
theorem dX10_append_19 : decode cX10_append 19 = .ok (.iconst 0, 1) := by decide +kernel
theorem dX10_append_20 : decode cX10_append 20 = .ok (.istore_n 2, 1) := by decide +kernel
theorem dX10_append_21 : decode cX10_append 21 = .ok (.iload_n 2, 1) := by decide +kernel
theorem dX10_append_22 : decode cX10_append 22 = .ok (.aload_n 1, 1) := by decide +kernel
theorem dX10_append_23 : decode cX10_append 23 = .ok (.getfield 21, 3) := by decide +kernel
theorem dX10_append_26 : decode cX10_append 26 = .ok (.if_icmp .ge 31, 3) := by decide +kernel
theorem dX10_append_29 : decode cX10_append 29 = .ok (.aload_n 0, 1) := by decide +kernel
theorem dX10_append_30 : decode cX10_append 30 = .ok (.getfield 15, 3) := by decide +kernel
theorem dX10_append_33 : decode cX10_append 33 = .ok (.aload_n 0, 1) := by decide +kernel
theorem dX10_append_34 : decode cX10_append 34 = .ok (.dup, 1) := by decide +kernel
theorem dX10_append_35 : decode cX10_append 35 = .ok (.getfield 21, 3) := by decide +kernel
theorem dX10_append_38 : decode cX10_append 38 = .ok (.dup_x1, 1) := by decide +kernel
theorem dX10_append_39 : decode cX10_append 39 = .ok (.iconst 1, 1) := by decide +kernel
theorem dX10_append_40 : decode cX10_append 40 = .ok (.iadd, 1) := by decide +kernel
theorem dX10_append_41 : decode cX10_append 41 = .ok (.putfield 21, 3) := by decide +kernel
theorem dX10_append_44 : decode cX10_append 44 = .ok (.aload_n 1, 1) := by decide +kernel
theorem dX10_append_45 : decode cX10_append 45 = .ok (.getfield 15, 3) := by decide +kernel
theorem dX10_append_48 : decode cX10_append 48 = .ok (.iload_n 2, 1) := by decide +kernel
theorem dX10_append_49 : decode cX10_append 49 = .ok (.iaload, 1) := by decide +kernel
theorem dX10_append_50 : decode cX10_append 50 = .ok (.iastore, 1) := by decide +kernel
theorem dX10_append_51 : decode cX10_append 51 = .ok (.iinc 2 1, 3) := by decide +kernel
theorem dX10_append_54 : decode cX10_append 54 = .ok (.goto (-33), 3) := by decide +kernel
theorem dX10_append_57 : decode cX10_append 57 = .ok (.iconst 1, 1) := by decide +kernel
theorem dX10_append_58 : decode cX10_append 58 = .ok (.ireturn, 1) := by decide +kernel
theorem dX10_drawFrom_0 : decode cX10_drawFrom 0 = .ok (.aload_n 0, 1) := by decide +kernel
theorem dX10_drawFrom_1 : decode cX10_drawFrom 1 = .ok (.getfield 21, 3) := by decide +kernel
theorem dX10_drawFrom_4 : decode cX10_drawFrom 4 = .ok (.istore_n 3, 1) := by decide +kernel
theorem dX10_drawFrom_5 : decode cX10_drawFrom 5 = .ok (.aload_n 1, 1) := by decide +kernel
theorem dX10_drawFrom_6 : decode cX10_drawFrom 6 = .ok (.getfield 21, 3) := by decide +kernel
theorem dX10_drawFrom_9 : decode cX10_drawFrom 9 = .ok (.iload_n 2, 1) := by decide +kernel
theorem dX10_drawFrom_10 : decode cX10_drawFrom 10 = .ok (.if_icmp .le 60, 3) := by decide +kernel
theorem dX10_drawFrom_13 : decode cX10_drawFrom 13 = .ok (.aload_n 1, 1) := by decide +kernel
theorem dX10_drawFrom_14 : decode cX10_drawFrom 14 = .ok (.getfield 21, 3) := by decide +kernel
theorem dX10_drawFrom_17 : decode cX10_drawFrom 17 = .ok (.ifCond .le 53, 3) := by decide +kernel
theorem dX10_drawFrom_20 : decode cX10_drawFrom 20 = .ok (.aload_n 0, 1) := by decide +kernel
theorem dX10_drawFrom_21 : decode cX10_drawFrom 21 = .ok (.getfield 21, 3) := by decide +kernel
theorem dX10_drawFrom_24 : decode cX10_drawFrom 24 = .ok (.aload_n 0, 1) := by decide +kernel
theorem dX10_drawFrom_25 : decode cX10_drawFrom 25 = .ok (.getfield 15, 3) := by decide +kernel
theorem dX10_drawFrom_28 : decode cX10_drawFrom 28 = .ok (.arraylength, 1) := by decide +kernel
theorem dX10_drawFrom_29 : decode cX10_drawFrom 29 = .ok (.if_icmp .ge 41, 3) := by decide +kernel
theorem dX10_drawFrom_32 : decode cX10_drawFrom 32 = .ok (.aload_n 1, 1) := by decide +kernel
theorem dX10_drawFrom_33 : decode cX10_drawFrom 33 = .ok (.dup, 1) := by decide +kernel
theorem dX10_drawFrom_34 : decode cX10_drawFrom 34 = .ok (.getfield 21, 3) := by decide +kernel
theorem dX10_drawFrom_37 : decode cX10_drawFrom 37 = .ok (.iconst 1, 1) := by decide +kernel
theorem dX10_drawFrom_38 : decode cX10_drawFrom 38 = .ok (.isub, 1) := by decide +kernel
theorem dX10_drawFrom_39 : decode cX10_drawFrom 39 = .ok (.putfield 21, 3) := by decide +kernel
theorem dX10_drawFrom_42 : decode cX10_drawFrom 42 = .ok (.aload_n 0, 1) := by decide +kernel
theorem dX10_drawFrom_43 : decode cX10_drawFrom 43 = .ok (.getfield 15, 3) := by decide +kernel
theorem dX10_drawFrom_46 : decode cX10_drawFrom 46 = .ok (.aload_n 0, 1) := by decide +kernel
theorem dX10_drawFrom_47 : decode cX10_drawFrom 47 = .ok (.dup, 1) := by decide +kernel
theorem dX10_drawFrom_48 : decode cX10_drawFrom 48 = .ok (.getfield 21, 3) := by decide +kernel
theorem dX10_drawFrom_51 : decode cX10_drawFrom 51 = .ok (.dup_x1, 1) := by decide +kernel
theorem dX10_drawFrom_52 : decode cX10_drawFrom 52 = .ok (.iconst 1, 1) := by decide +kernel
theorem dX10_drawFrom_53 : decode cX10_drawFrom 53 = .ok (.iadd, 1) := by decide +kernel
theorem dX10_drawFrom_54 : decode cX10_drawFrom 54 = .ok (.putfield 21, 3) := by decide +kernel
theorem dX10_drawFrom_57 : decode cX10_drawFrom 57 = .ok (.aload_n 1, 1) := by decide +kernel
theorem dX10_drawFrom_58 : decode cX10_drawFrom 58 = .ok (.getfield 15, 3) := by decide +kernel
theorem dX10_drawFrom_61 : decode cX10_drawFrom 61 = .ok (.aload_n 1, 1) := by decide +kernel
theorem dX10_drawFrom_62 : decode cX10_drawFrom 62 = .ok (.getfield 21, 3) := by decide +kernel
theorem dX10_drawFrom_65 : decode cX10_drawFrom 65 = .ok (.iaload, 1) := by decide +kernel
theorem dX10_drawFrom_66 : decode cX10_drawFrom 66 = .ok (.iastore, 1) := by decide +kernel
theorem dX10_drawFrom_67 : decode cX10_drawFrom 67 = .ok (.goto (-62), 3) := by decide +kernel
theorem dX10_drawFrom_70 : decode cX10_drawFrom 70 = .ok (.aload_n 0, 1) := by decide +kernel
theorem dX10_drawFrom_71 : decode cX10_drawFrom 71 = .ok (.getfield 21, 3) := by decide +kernel
theorem dX10_drawFrom_74 : decode cX10_drawFrom 74 = .ok (.iload_n 3, 1) := by decide +kernel
theorem dX10_drawFrom_75 : decode cX10_drawFrom 75 = .ok (.isub, 1) := by decide +kernel
theorem dX10_drawFrom_76 : decode cX10_drawFrom 76 = .ok (.ireturn, 1) := by decide +kernel
theorem dX10_dropLast_0 : decode cX10_dropLast 0 = .ok (.aload_n 0, 1) := by decide +kernel
theorem dX10_dropLast_1 : decode cX10_dropLast 1 = .ok (.getfield 21, 3) := by decide +kernel
theorem dX10_dropLast_4 : decode cX10_dropLast 4 = .ok (.ifCond .le 15, 3) := by decide +kernel
theorem dX10_dropLast_7 : decode cX10_dropLast 7 = .ok (.aload_n 0, 1) := by decide +kernel
theorem dX10_dropLast_8 : decode cX10_dropLast 8 = .ok (.getfield 21, 3) := by decide +kernel
theorem dX10_dropLast_11 : decode cX10_dropLast 11 = .ok (.aload_n 0, 1) := by decide +kernel
theorem dX10_dropLast_12 : decode cX10_dropLast 12 = .ok (.getfield 15, 3) := by decide +kernel
theorem dX10_dropLast_15 : decode cX10_dropLast 15 = .ok (.arraylength, 1) := by decide +kernel
theorem dX10_dropLast_16 : decode cX10_dropLast 16 = .ok (.if_icmp .le 6, 3) := by decide +kernel
theorem dX10_dropLast_19 : decode cX10_dropLast 19 = .ok (.bipush (-9), 2) := by decide +kernel
theorem dX10_dropLast_21 : decode cX10_dropLast 21 = .ok (.ireturn, 1) := by decide +kernel
theorem dX10_dropLast_22 : decode cX10_dropLast 22 = .ok (.aload_n 0, 1) := by decide +kernel
theorem dX10_dropLast_23 : decode cX10_dropLast 23 = .ok (.dup, 1) := by decide +kernel
theorem dX10_dropLast_24 : decode cX10_dropLast 24 = .ok (.getfield 21, 3) := by decide +kernel
theorem dX10_dropLast_27 : decode cX10_dropLast 27 = .ok (.iconst 1, 1) := by decide +kernel
theorem dX10_dropLast_28 : decode cX10_dropLast 28 = .ok (.isub, 1) := by decide +kernel
theorem dX10_dropLast_29 : decode cX10_dropLast 29 = .ok (.putfield 21, 3) := by decide +kernel
theorem dX10_dropLast_32 : decode cX10_dropLast 32 = .ok (.aload_n 0, 1) := by decide +kernel
theorem dX10_dropLast_33 : decode cX10_dropLast 33 = .ok (.getfield 15, 3) := by decide +kernel
theorem dX10_dropLast_36 : decode cX10_dropLast 36 = .ok (.aload_n 0, 1) := by decide +kernel
theorem dX10_dropLast_37 : decode cX10_dropLast 37 = .ok (.getfield 21, 3) := by decide +kernel
theorem dX10_dropLast_40 : decode cX10_dropLast 40 = .ok (.iaload, 1) := by decide +kernel
theorem dX10_dropLast_41 : decode cX10_dropLast 41 = .ok (.ireturn, 1) := by decide +kernel
theorem dX10_init_0 : decode cX10_init 0 = .ok (.aload_n 0, 1) := by decide +kernel
theorem dX10_init_1 : decode cX10_init 1 = .ok (.invokespecial 3, 3) := by decide +kernel
theorem dX10_init_4 : decode cX10_init 4 = .ok (.aload_n 0, 1) := by decide +kernel
theorem dX10_init_5 : decode cX10_init 5 = .ok (.iload_n 1, 1) := by decide +kernel
theorem dX10_init_6 : decode cX10_init 6 = .ok (.iconst 0, 1) := by decide +kernel
theorem dX10_init_7 : decode cX10_init 7 = .ok (.invokestatic 9, 3) := by decide +kernel
theorem dX10_init_10 : decode cX10_init 10 = .ok (.newarray .int, 2) := by decide +kernel
theorem dX10_init_12 : decode cX10_init 12 = .ok (.putfield 15, 3) := by decide +kernel
theorem dX10_init_15 : decode cX10_init 15 = .ok (.return_, 1) := by decide +kernel
theorem dX10_isSame_0 : decode cX10_isSame 0 = .ok (.aload_n 0, 1) := by decide +kernel
theorem dX10_isSame_1 : decode cX10_isSame 1 = .ok (.getfield 21, 3) := by decide +kernel
theorem dX10_isSame_4 : decode cX10_isSame 4 = .ok (.aload_n 1, 1) := by decide +kernel
theorem dX10_isSame_5 : decode cX10_isSame 5 = .ok (.getfield 21, 3) := by decide +kernel
theorem dX10_isSame_8 : decode cX10_isSame 8 = .ok (.if_icmp .eq 5, 3) := by decide +kernel
theorem dX10_isSame_11 : decode cX10_isSame 11 = .ok (.iconst 0, 1) := by decide +kernel
theorem dX10_isSame_12 : decode cX10_isSame 12 = .ok (.ireturn, 1) := by decide +kernel
theorem dX10_isSame_13 : decode cX10_isSame 13 = .ok (.iconst 0, 1) := by decide +kernel
theorem dX10_isSame_14 : decode cX10_isSame 14 = .ok (.istore_n 2, 1) := by decide +kernel
theorem dX10_isSame_15 : decode cX10_isSame 15 = .ok (.iload_n 2, 1) := by decide +kernel
theorem dX10_isSame_16 : decode cX10_isSame 16 = .ok (.aload_n 0, 1) := by decide +kernel
theorem dX10_isSame_17 : decode cX10_isSame 17 = .ok (.getfield 21, 3) := by decide +kernel
theorem dX10_isSame_20 : decode cX10_isSame 20 = .ok (.if_icmp .ge 26, 3) := by decide +kernel
theorem dX10_isSame_23 : decode cX10_isSame 23 = .ok (.aload_n 0, 1) := by decide +kernel
theorem dX10_isSame_24 : decode cX10_isSame 24 = .ok (.getfield 15, 3) := by decide +kernel
theorem dX10_isSame_27 : decode cX10_isSame 27 = .ok (.iload_n 2, 1) := by decide +kernel
theorem dX10_isSame_28 : decode cX10_isSame 28 = .ok (.iaload, 1) := by decide +kernel
theorem dX10_isSame_29 : decode cX10_isSame 29 = .ok (.aload_n 1, 1) := by decide +kernel
theorem dX10_isSame_30 : decode cX10_isSame 30 = .ok (.getfield 15, 3) := by decide +kernel
theorem dX10_isSame_33 : decode cX10_isSame 33 = .ok (.iload_n 2, 1) := by decide +kernel
theorem dX10_isSame_34 : decode cX10_isSame 34 = .ok (.iaload, 1) := by decide +kernel
theorem dX10_isSame_35 : decode cX10_isSame 35 = .ok (.if_icmp .eq 5, 3) := by decide +kernel
theorem dX10_isSame_38 : decode cX10_isSame 38 = .ok (.iconst 0, 1) := by decide +kernel
theorem dX10_isSame_39 : decode cX10_isSame 39 = .ok (.ireturn, 1) := by decide +kernel
theorem dX10_isSame_40 : decode cX10_isSame 40 = .ok (.iinc 2 1, 3) := by decide +kernel
theorem dX10_isSame_43 : decode cX10_isSame 43 = .ok (.goto (-28), 3) := by decide +kernel
theorem dX10_isSame_46 : decode cX10_isSame 46 = .ok (.iconst 1, 1) := by decide +kernel
theorem dX10_isSame_47 : decode cX10_isSame 47 = .ok (.ireturn, 1) := by decide +kernel
theorem dX10_pack_0 : decode cX10_pack 0 = .ok (.lconst 1, 1) := by decide +kernel
theorem dX10_pack_1 : decode cX10_pack 1 = .ok (.lstore_n 3, 1) := by decide +kernel
theorem dX10_pack_2 : decode cX10_pack 2 = .ok (.iload_n 1, 1) := by decide +kernel
theorem dX10_pack_3 : decode cX10_pack 3 = .ok (.ifCond .ge 7, 3) := by decide +kernel
theorem dX10_pack_6 : decode cX10_pack 6 = .ok (.iconst 0, 1) := by decide +kernel
theorem dX10_pack_7 : decode cX10_pack 7 = .ok (.goto 4, 3) := by decide +kernel
theorem dX10_pack_10 : decode cX10_pack 10 = .ok (.iload_n 1, 1) := by decide +kernel
theorem dX10_pack_11 : decode cX10_pack 11 = .ok (.istore 5, 2) := by decide +kernel
theorem dX10_pack_13 : decode cX10_pack 13 = .ok (.iload 5, 2) := by decide +kernel
theorem dX10_pack_15 : decode cX10_pack 15 = .ok (.aload_n 0, 1) := by decide +kernel
theorem dX10_pack_16 : decode cX10_pack 16 = .ok (.getfield 21, 3) := by decide +kernel
theorem dX10_pack_19 : decode cX10_pack 19 = .ok (.if_icmp .ge 39, 3) := by decide +kernel
theorem dX10_pack_22 : decode cX10_pack 22 = .ok (.iload 5, 2) := by decide +kernel
theorem dX10_pack_24 : decode cX10_pack 24 = .ok (.iload_n 2, 1) := by decide +kernel
theorem dX10_pack_25 : decode cX10_pack 25 = .ok (.if_icmp .ge 33, 3) := by decide +kernel
theorem dX10_pack_28 : decode cX10_pack 28 = .ok (.iload 5, 2) := by decide +kernel
theorem dX10_pack_30 : decode cX10_pack 30 = .ok (.iload_n 1, 1) := by decide +kernel
theorem dX10_pack_31 : decode cX10_pack 31 = .ok (.bipush 30, 2) := by decide +kernel
theorem dX10_pack_33 : decode cX10_pack 33 = .ok (.iadd, 1) := by decide +kernel
theorem dX10_pack_34 : decode cX10_pack 34 = .ok (.if_icmp .ge 24, 3) := by decide +kernel
theorem dX10_pack_37 : decode cX10_pack 37 = .ok (.lload_n 3, 1) := by decide +kernel
theorem dX10_pack_38 : decode cX10_pack 38 = .ok (.ldc2_w 28, 3) := by decide +kernel
theorem dX10_pack_41 : decode cX10_pack 41 = .ok (.lmul, 1) := by decide +kernel
theorem dX10_pack_42 : decode cX10_pack 42 = .ok (.aload_n 0, 1) := by decide +kernel
theorem dX10_pack_43 : decode cX10_pack 43 = .ok (.getfield 15, 3) := by decide +kernel
theorem dX10_pack_46 : decode cX10_pack 46 = .ok (.iload 5, 2) := by decide +kernel
theorem dX10_pack_48 : decode cX10_pack 48 = .ok (.iaload, 1) := by decide +kernel
theorem dX10_pack_49 : decode cX10_pack 49 = .ok (.i2l, 1) := by decide +kernel
theorem dX10_pack_50 : decode cX10_pack 50 = .ok (.ladd, 1) := by decide +kernel
theorem dX10_pack_51 : decode cX10_pack 51 = .ok (.lstore_n 3, 1) := by decide +kernel
theorem dX10_pack_52 : decode cX10_pack 52 = .ok (.iinc 5 1, 3) := by decide +kernel
theorem dX10_pack_55 : decode cX10_pack 55 = .ok (.goto (-42), 3) := by decide +kernel
theorem dX10_pack_58 : decode cX10_pack 58 = .ok (.lload_n 3, 1) := by decide +kernel
theorem dX10_pack_59 : decode cX10_pack 59 = .ok (.lreturn, 1) := by decide +kernel
theorem dX10_pick_0 : decode cX10_pick 0 = .ok (.iload_n 1, 1) := by decide +kernel
theorem dX10_pick_1 : decode cX10_pick 1 = .ok (.ifCond .lt 29, 3) := by decide +kernel
theorem dX10_pick_4 : decode cX10_pick 4 = .ok (.iload_n 1, 1) := by decide +kernel
theorem dX10_pick_5 : decode cX10_pick 5 = .ok (.aload_n 0, 1) := by decide +kernel
theorem dX10_pick_6 : decode cX10_pick 6 = .ok (.getfield 21, 3) := by decide +kernel
theorem dX10_pick_9 : decode cX10_pick 9 = .ok (.if_icmp .ge 21, 3) := by decide +kernel
theorem dX10_pick_12 : decode cX10_pick 12 = .ok (.iload_n 1, 1) := by decide +kernel
theorem dX10_pick_13 : decode cX10_pick 13 = .ok (.aload_n 0, 1) := by decide +kernel
theorem dX10_pick_14 : decode cX10_pick 14 = .ok (.getfield 15, 3) := by decide +kernel
theorem dX10_pick_17 : decode cX10_pick 17 = .ok (.arraylength, 1) := by decide +kernel
theorem dX10_pick_18 : decode cX10_pick 18 = .ok (.if_icmp .ge 12, 3) := by decide +kernel
theorem dX10_pick_21 : decode cX10_pick 21 = .ok (.aload_n 0, 1) := by decide +kernel
theorem dX10_pick_22 : decode cX10_pick 22 = .ok (.getfield 15, 3) := by decide +kernel
theorem dX10_pick_25 : decode cX10_pick 25 = .ok (.iload_n 1, 1) := by decide +kernel
theorem dX10_pick_26 : decode cX10_pick 26 = .ok (.iaload, 1) := by decide +kernel
theorem dX10_pick_27 : decode cX10_pick 27 = .ok (.goto 5, 3) := by decide +kernel
theorem dX10_pick_30 : decode cX10_pick 30 = .ok (.bipush (-9), 2) := by decide +kernel
theorem dX10_pick_32 : decode cX10_pick 32 = .ok (.ireturn, 1) := by decide +kernel
