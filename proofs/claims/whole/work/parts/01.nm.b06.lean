theorem dX12_changed_0 : decode cX12_changed 0 = .ok (.aload_n 0, 1) := by decide +kernel
theorem dX12_changed_1 : decode cX12_changed 1 = .ok (.getfield 20, 3) := by decide +kernel
theorem dX12_changed_4 : decode cX12_changed 4 = .ok (.iconst 2, 1) := by decide +kernel
theorem dX12_changed_5 : decode cX12_changed 5 = .ok (.iload_n 1, 1) := by decide +kernel
theorem dX12_changed_6 : decode cX12_changed 6 = .ok (.imul, 1) := by decide +kernel
theorem dX12_changed_7 : decode cX12_changed 7 = .ok (.iaload, 1) := by decide +kernel
theorem dX12_changed_8 : decode cX12_changed 8 = .ok (.istore 4, 2) := by decide +kernel
theorem dX12_changed_10 : decode cX12_changed 10 = .ok (.aload_n 0, 1) := by decide +kernel
theorem dX12_changed_11 : decode cX12_changed 11 = .ok (.getfield 20, 3) := by decide +kernel
theorem dX12_changed_14 : decode cX12_changed 14 = .ok (.iconst 2, 1) := by decide +kernel
theorem dX12_changed_15 : decode cX12_changed 15 = .ok (.iload_n 1, 1) := by decide +kernel
theorem dX12_changed_16 : decode cX12_changed 16 = .ok (.imul, 1) := by decide +kernel
theorem dX12_changed_17 : decode cX12_changed 17 = .ok (.iconst 1, 1) := by decide +kernel
theorem dX12_changed_18 : decode cX12_changed 18 = .ok (.iadd, 1) := by decide +kernel
theorem dX12_changed_19 : decode cX12_changed 19 = .ok (.iaload, 1) := by decide +kernel
theorem dX12_changed_20 : decode cX12_changed 20 = .ok (.istore 5, 2) := by decide +kernel
theorem dX12_changed_22 : decode cX12_changed 22 = .ok (.iload_n 2, 1) := by decide +kernel
theorem dX12_changed_23 : decode cX12_changed 23 = .ok (.iload 4, 2) := by decide +kernel
theorem dX12_changed_25 : decode cX12_changed 25 = .ok (.iadd, 1) := by decide +kernel
theorem dX12_changed_26 : decode cX12_changed 26 = .ok (.aload_n 0, 1) := by decide +kernel
theorem dX12_changed_27 : decode cX12_changed 27 = .ok (.getfield 119, 3) := by decide +kernel
theorem dX12_changed_30 : decode cX12_changed 30 = .ok (.if_icmp .gt 17, 3) := by decide +kernel
theorem dX12_changed_33 : decode cX12_changed 33 = .ok (.aload_n 0, 1) := by decide +kernel
theorem dX12_changed_34 : decode cX12_changed 34 = .ok (.getfield 119, 3) := by decide +kernel
theorem dX12_changed_37 : decode cX12_changed 37 = .ok (.iload 4, 2) := by decide +kernel
theorem dX12_changed_39 : decode cX12_changed 39 = .ok (.isub, 1) := by decide +kernel
theorem dX12_changed_40 : decode cX12_changed 40 = .ok (.iload 5, 2) := by decide +kernel
theorem dX12_changed_42 : decode cX12_changed 42 = .ok (.iadd, 1) := by decide +kernel
theorem dX12_changed_43 : decode cX12_changed 43 = .ok (.iload_n 3, 1) := by decide +kernel
theorem dX12_changed_44 : decode cX12_changed 44 = .ok (.if_icmp .le 6, 3) := by decide +kernel
theorem dX12_changed_47 : decode cX12_changed 47 = .ok (.bipush (-9), 2) := by decide +kernel
theorem dX12_changed_49 : decode cX12_changed 49 = .ok (.ireturn, 1) := by decide +kernel
theorem dX12_changed_50 : decode cX12_changed 50 = .ok (.iconst 0, 1) := by decide +kernel
theorem dX12_changed_51 : decode cX12_changed 51 = .ok (.istore 6, 2) := by decide +kernel
theorem dX12_changed_53 : decode cX12_changed 53 = .ok (.iload 6, 2) := by decide +kernel
theorem dX12_changed_55 : decode cX12_changed 55 = .ok (.iload 4, 2) := by decide +kernel
theorem dX12_changed_57 : decode cX12_changed 57 = .ok (.if_icmp .ge 36, 3) := by decide +kernel
theorem dX12_changed_60 : decode cX12_changed 60 = .ok (.aload_n 0, 1) := by decide +kernel
theorem dX12_changed_61 : decode cX12_changed 61 = .ok (.getfield 35, 3) := by decide +kernel
theorem dX12_changed_64 : decode cX12_changed 64 = .ok (.iload_n 2, 1) := by decide +kernel
theorem dX12_changed_65 : decode cX12_changed 65 = .ok (.iload 6, 2) := by decide +kernel
theorem dX12_changed_67 : decode cX12_changed 67 = .ok (.iadd, 1) := by decide +kernel
theorem dX12_changed_68 : decode cX12_changed 68 = .ok (.iaload, 1) := by decide +kernel
theorem dX12_changed_69 : decode cX12_changed 69 = .ok (.aload_n 0, 1) := by decide +kernel
theorem dX12_changed_70 : decode cX12_changed 70 = .ok (.getfield 23, 3) := by decide +kernel
theorem dX12_changed_73 : decode cX12_changed 73 = .ok (.bipush 24, 2) := by decide +kernel
theorem dX12_changed_75 : decode cX12_changed 75 = .ok (.iload_n 1, 1) := by decide +kernel
theorem dX12_changed_76 : decode cX12_changed 76 = .ok (.imul, 1) := by decide +kernel
theorem dX12_changed_77 : decode cX12_changed 77 = .ok (.iload 6, 2) := by decide +kernel
theorem dX12_changed_79 : decode cX12_changed 79 = .ok (.iadd, 1) := by decide +kernel
theorem dX12_changed_80 : decode cX12_changed 80 = .ok (.iaload, 1) := by decide +kernel
theorem dX12_changed_81 : decode cX12_changed 81 = .ok (.if_icmp .eq 6, 3) := by decide +kernel
theorem dX12_changed_84 : decode cX12_changed 84 = .ok (.bipush (-9), 2) := by decide +kernel
theorem dX12_changed_86 : decode cX12_changed 86 = .ok (.ireturn, 1) := by decide +kernel
theorem dX12_changed_87 : decode cX12_changed 87 = .ok (.iinc 6 1, 3) := by decide +kernel
theorem dX12_changed_90 : decode cX12_changed 90 = .ok (.goto (-37), 3) := by decide +kernel
theorem dX12_changed_93 : decode cX12_changed 93 = .ok (.iconst 0, 1) := by decide +kernel
theorem dX12_changed_94 : decode cX12_changed 94 = .ok (.istore 6, 2) := by decide +kernel
theorem dX12_changed_96 : decode cX12_changed 96 = .ok (.iconst 0, 1) := by decide +kernel
theorem dX12_changed_97 : decode cX12_changed 97 = .ok (.istore 7, 2) := by decide +kernel
theorem dX12_changed_99 : decode cX12_changed 99 = .ok (.iload 7, 2) := by decide +kernel
theorem dX12_changed_101 : decode cX12_changed 101 = .ok (.iload_n 2, 1) := by decide +kernel
theorem dX12_changed_102 : decode cX12_changed 102 = .ok (.if_icmp .ge 26, 3) := by decide +kernel
theorem dX12_changed_105 : decode cX12_changed 105 = .ok (.iload 6, 2) := by decide +kernel
theorem dX12_changed_107 : decode cX12_changed 107 = .ok (.aload_n 0, 1) := by decide +kernel
theorem dX12_changed_108 : decode cX12_changed 108 = .ok (.getfield 7, 3) := by decide +kernel
theorem dX12_changed_111 : decode cX12_changed 111 = .ok (.imul, 1) := by decide +kernel
theorem dX12_changed_112 : decode cX12_changed 112 = .ok (.aload_n 0, 1) := by decide +kernel
theorem dX12_changed_113 : decode cX12_changed 113 = .ok (.getfield 35, 3) := by decide +kernel
theorem dX12_changed_116 : decode cX12_changed 116 = .ok (.iload 7, 2) := by decide +kernel
theorem dX12_changed_118 : decode cX12_changed 118 = .ok (.iaload, 1) := by decide +kernel
theorem dX12_changed_119 : decode cX12_changed 119 = .ok (.iadd, 1) := by decide +kernel
theorem dX12_changed_120 : decode cX12_changed 120 = .ok (.istore 6, 2) := by decide +kernel
theorem dX12_changed_122 : decode cX12_changed 122 = .ok (.iinc 7 1, 3) := by decide +kernel
theorem dX12_changed_125 : decode cX12_changed 125 = .ok (.goto (-26), 3) := by decide +kernel
theorem dX12_changed_128 : decode cX12_changed 128 = .ok (.iconst 0, 1) := by decide +kernel
theorem dX12_changed_129 : decode cX12_changed 129 = .ok (.istore 7, 2) := by decide +kernel
theorem dX12_changed_131 : decode cX12_changed 131 = .ok (.iload 7, 2) := by decide +kernel
theorem dX12_changed_133 : decode cX12_changed 133 = .ok (.iload 5, 2) := by decide +kernel
theorem dX12_changed_135 : decode cX12_changed 135 = .ok (.if_icmp .ge 34, 3) := by decide +kernel
theorem dX12_changed_138 : decode cX12_changed 138 = .ok (.iload 6, 2) := by decide +kernel
theorem dX12_changed_140 : decode cX12_changed 140 = .ok (.aload_n 0, 1) := by decide +kernel
theorem dX12_changed_141 : decode cX12_changed 141 = .ok (.getfield 7, 3) := by decide +kernel
theorem dX12_changed_144 : decode cX12_changed 144 = .ok (.imul, 1) := by decide +kernel
theorem dX12_changed_145 : decode cX12_changed 145 = .ok (.aload_n 0, 1) := by decide +kernel
theorem dX12_changed_146 : decode cX12_changed 146 = .ok (.getfield 23, 3) := by decide +kernel
theorem dX12_changed_149 : decode cX12_changed 149 = .ok (.bipush 24, 2) := by decide +kernel
theorem dX12_changed_151 : decode cX12_changed 151 = .ok (.iload_n 1, 1) := by decide +kernel
theorem dX12_changed_152 : decode cX12_changed 152 = .ok (.imul, 1) := by decide +kernel
theorem dX12_changed_153 : decode cX12_changed 153 = .ok (.bipush 12, 2) := by decide +kernel
theorem dX12_changed_155 : decode cX12_changed 155 = .ok (.iadd, 1) := by decide +kernel
theorem dX12_changed_156 : decode cX12_changed 156 = .ok (.iload 7, 2) := by decide +kernel
theorem dX12_changed_158 : decode cX12_changed 158 = .ok (.iadd, 1) := by decide +kernel
theorem dX12_changed_159 : decode cX12_changed 159 = .ok (.iaload, 1) := by decide +kernel
theorem dX12_changed_160 : decode cX12_changed 160 = .ok (.iadd, 1) := by decide +kernel
theorem dX12_changed_161 : decode cX12_changed 161 = .ok (.istore 6, 2) := by decide +kernel
theorem dX12_changed_163 : decode cX12_changed 163 = .ok (.iinc 7 1, 3) := by decide +kernel
theorem dX12_changed_166 : decode cX12_changed 166 = .ok (.goto (-35), 3) := by decide +kernel
theorem dX12_changed_169 : decode cX12_changed 169 = .ok (.iload_n 2, 1) := by decide +kernel
theorem dX12_changed_170 : decode cX12_changed 170 = .ok (.iload 4, 2) := by decide +kernel
theorem dX12_changed_172 : decode cX12_changed 172 = .ok (.iadd, 1) := by decide +kernel
theorem dX12_changed_173 : decode cX12_changed 173 = .ok (.istore 7, 2) := by decide +kernel
theorem dX12_changed_175 : decode cX12_changed 175 = .ok (.iload 7, 2) := by decide +kernel
theorem dX12_changed_177 : decode cX12_changed 177 = .ok (.aload_n 0, 1) := by decide +kernel
theorem dX12_changed_178 : decode cX12_changed 178 = .ok (.getfield 119, 3) := by decide +kernel
theorem dX12_changed_181 : decode cX12_changed 181 = .ok (.if_icmp .ge 26, 3) := by decide +kernel
theorem dX12_changed_184 : decode cX12_changed 184 = .ok (.iload 6, 2) := by decide +kernel
theorem dX12_changed_186 : decode cX12_changed 186 = .ok (.aload_n 0, 1) := by decide +kernel
theorem dX12_changed_187 : decode cX12_changed 187 = .ok (.getfield 7, 3) := by decide +kernel
theorem dX12_changed_190 : decode cX12_changed 190 = .ok (.imul, 1) := by decide +kernel
theorem dX12_changed_191 : decode cX12_changed 191 = .ok (.aload_n 0, 1) := by decide +kernel
theorem dX12_changed_192 : decode cX12_changed 192 = .ok (.getfield 35, 3) := by decide +kernel
theorem dX12_changed_195 : decode cX12_changed 195 = .ok (.iload 7, 2) := by decide +kernel
theorem dX12_changed_197 : decode cX12_changed 197 = .ok (.iaload, 1) := by decide +kernel
theorem dX12_changed_198 : decode cX12_changed 198 = .ok (.iadd, 1) := by decide +kernel
theorem dX12_changed_199 : decode cX12_changed 199 = .ok (.istore 6, 2) := by decide +kernel
theorem dX12_changed_201 : decode cX12_changed 201 = .ok (.iinc 7 1, 3) := by decide +kernel
theorem dX12_changed_204 : decode cX12_changed 204 = .ok (.goto (-29), 3) := by decide +kernel
theorem dX12_changed_207 : decode cX12_changed 207 = .ok (.aload_n 0, 1) := by decide +kernel
theorem dX12_changed_208 : decode cX12_changed 208 = .ok (.getfield 29, 3) := by decide +kernel
theorem dX12_changed_211 : decode cX12_changed 211 = .ok (.aload_n 0, 1) := by decide +kernel
theorem dX12_changed_212 : decode cX12_changed 212 = .ok (.getfield 119, 3) := by decide +kernel
theorem dX12_changed_215 : decode cX12_changed 215 = .ok (.iload 4, 2) := by decide +kernel
theorem dX12_changed_217 : decode cX12_changed 217 = .ok (.isub, 1) := by decide +kernel
theorem dX12_changed_218 : decode cX12_changed 218 = .ok (.iload 5, 2) := by decide +kernel
theorem dX12_changed_220 : decode cX12_changed 220 = .ok (.iadd, 1) := by decide +kernel
theorem dX12_changed_221 : decode cX12_changed 221 = .ok (.iaload, 1) := by decide +kernel
theorem dX12_changed_222 : decode cX12_changed 222 = .ok (.iload 6, 2) := by decide +kernel
theorem dX12_changed_224 : decode cX12_changed 224 = .ok (.iadd, 1) := by decide +kernel
theorem dX12_changed_225 : decode cX12_changed 225 = .ok (.ireturn, 1) := by decide +kernel
theorem dX12_clear_0 : decode cX12_clear 0 = .ok (.aload_n 0, 1) := by decide +kernel
theorem dX12_clear_1 : decode cX12_clear 1 = .ok (.getfield 13, 3) := by decide +kernel
theorem dX12_clear_4 : decode cX12_clear 4 = .ok (.bipush 8, 2) := by decide +kernel
theorem dX12_clear_6 : decode cX12_clear 6 = .ok (.iaload, 1) := by decide +kernel
theorem dX12_clear_7 : decode cX12_clear 7 = .ok (.istore_n 1, 1) := by decide +kernel
theorem dX12_clear_8 : decode cX12_clear 8 = .ok (.aload_n 0, 1) := by decide +kernel
theorem dX12_clear_9 : decode cX12_clear 9 = .ok (.getfield 13, 3) := by decide +kernel
theorem dX12_clear_12 : decode cX12_clear 12 = .ok (.bipush 8, 2) := by decide +kernel
theorem dX12_clear_14 : decode cX12_clear 14 = .ok (.iconst 0, 1) := by decide +kernel
theorem dX12_clear_15 : decode cX12_clear 15 = .ok (.iastore, 1) := by decide +kernel
theorem dX12_clear_16 : decode cX12_clear 16 = .ok (.iload_n 1, 1) := by decide +kernel
theorem dX12_clear_17 : decode cX12_clear 17 = .ok (.ireturn, 1) := by decide +kernel
theorem dX12_closed_0 : decode cX12_closed 0 = .ok (.aload_n 0, 1) := by decide +kernel
theorem dX12_closed_1 : decode cX12_closed 1 = .ok (.getfield 26, 3) := by decide +kernel
theorem dX12_closed_4 : decode cX12_closed 4 = .ok (.bipush (-9), 2) := by decide +kernel
theorem dX12_closed_6 : decode cX12_closed 6 = .ok (.if_icmp .ne 8, 3) := by decide +kernel
theorem dX12_closed_9 : decode cX12_closed 9 = .ok (.bipush (-3), 2) := by decide +kernel
theorem dX12_closed_11 : decode cX12_closed 11 = .ok (.goto 15, 3) := by decide +kernel
theorem dX12_closed_14 : decode cX12_closed 14 = .ok (.aload_n 0, 1) := by decide +kernel
theorem dX12_closed_15 : decode cX12_closed 15 = .ok (.getfield 215, 3) := by decide +kernel
theorem dX12_closed_18 : decode cX12_closed 18 = .ok (.ifCond .eq 7, 3) := by decide +kernel
theorem dX12_closed_21 : decode cX12_closed 21 = .ok (.iconst 1, 1) := by decide +kernel
theorem dX12_closed_22 : decode cX12_closed 22 = .ok (.goto 4, 3) := by decide +kernel
theorem dX12_closed_25 : decode cX12_closed 25 = .ok (.iconst 0, 1) := by decide +kernel
theorem dX12_closed_26 : decode cX12_closed 26 = .ok (.ireturn, 1) := by decide +kernel
set_option maxRecDepth 20000 in
theorem ggX12_closes_X12_lawsHold : GoodIn wsX12_closes wsX12_lawsHold := goodIn_r _ [6, 7, 8, 9, 10, 11, 12, 13, 5, 14, 15, 16, 17, 18, 19, 20, 21, 22, 23, 24, 25, 26, 27, 28, 29, 30, 31, 32, 33, 51, 52, 53, 54, 55, 56, 57, 58, 59, 60, 61, 62, 63, 64, 65, 66, 67, 68, 69, 70, 71, 72, 73, 74, 75, 76, 77, 78, 79, 80, 81, 82, 83, 84] rfl (by decide +kernel)
set_option maxRecDepth 20000 in
theorem gX12_closes_X12_lawsHold : GoodIn wsX12_closes (wsV RX12 188 RX12 yX12_lawsHold wsX12_lawsHold) := goodIn_app (goodIn_of _ (by decide +kernel)) ggX12_closes_X12_lawsHold
set_option maxRecDepth 20000 in
theorem ggX12_closes_X12_lapsHold : GoodIn wsX12_closes wsX12_lapsHold := goodIn_r _ [37, 27, 8, 29, 28, 38, 39, 40, 41, 5, 42, 11, 12, 13, 14, 15, 16, 17, 18, 19, 20, 21, 22, 23, 24, 25, 26, 30, 31, 32, 33, 51, 52, 53, 54, 55, 56, 57, 58, 59, 60, 61, 62, 63, 64, 65, 66, 67, 68, 69, 70, 71, 72, 73, 74, 75, 76, 77, 78, 79, 80, 81, 82, 83, 84] rfl (by decide +kernel)
set_option maxRecDepth 20000 in
theorem gX12_closes_X12_lapsHold : GoodIn wsX12_closes (wsV RX12 192 RX12 yX12_lapsHold wsX12_lapsHold) := goodIn_app (goodIn_of _ (by decide +kernel)) ggX12_closes_X12_lapsHold
set_option maxRecDepth 20000 in
theorem ggX12_closes_X12_withinHold : GoodIn wsX12_closes wsX12_withinHold := goodIn_r _ [46, 27, 8, 29, 28, 38, 47, 48, 49, 5, 50, 11, 12, 13, 14, 15, 16, 17, 18, 19, 20, 21, 22, 23, 24, 25, 26, 30, 31, 32, 33, 51, 52, 53, 54, 55, 56, 57, 58, 59, 60, 61, 62, 63, 64, 65, 66, 67, 68, 69, 70, 71, 72, 73, 74, 75, 76, 77, 78, 79, 80, 81, 82, 83, 84] rfl (by decide +kernel)
set_option maxRecDepth 20000 in
theorem gX12_closes_X12_withinHold : GoodIn wsX12_closes (wsV RX12 195 RX12 yX12_withinHold wsX12_withinHold) := goodIn_app (goodIn_of _ (by decide +kernel)) ggX12_closes_X12_withinHold
theorem dX12_closes_0 : decode cX12_closes 0 = .ok (.aload_n 0, 1) := by decide +kernel
theorem dX12_closes_1 : decode cX12_closes 1 = .ok (.invokevirtual 188, 3) := by decide +kernel
theorem dX12_closes_4 : decode cX12_closes 4 = .ok (.ifCond .ne 5, 3) := by decide +kernel
theorem dX12_closes_7 : decode cX12_closes 7 = .ok (.iconst 0, 1) := by decide +kernel
theorem dX12_closes_8 : decode cX12_closes 8 = .ok (.ireturn, 1) := by decide +kernel
theorem dX12_closes_9 : decode cX12_closes 9 = .ok (.iconst 0, 1) := by decide +kernel
theorem dX12_closes_10 : decode cX12_closes 10 = .ok (.istore_n 1, 1) := by decide +kernel
theorem dX12_closes_11 : decode cX12_closes 11 = .ok (.iload_n 1, 1) := by decide +kernel
theorem dX12_closes_12 : decode cX12_closes 12 = .ok (.aload_n 0, 1) := by decide +kernel
theorem dX12_closes_13 : decode cX12_closes 13 = .ok (.getfield 139, 3) := by decide +kernel
theorem dX12_closes_16 : decode cX12_closes 16 = .ok (.if_icmp .ge 45, 3) := by decide +kernel
theorem dX12_closes_19 : decode cX12_closes 19 = .ok (.iconst 0, 1) := by decide +kernel
theorem dX12_closes_20 : decode cX12_closes 20 = .ok (.istore_n 2, 1) := by decide +kernel
theorem dX12_closes_21 : decode cX12_closes 21 = .ok (.iload_n 2, 1) := by decide +kernel
theorem dX12_closes_22 : decode cX12_closes 22 = .ok (.aload_n 0, 1) := by decide +kernel
theorem dX12_closes_23 : decode cX12_closes 23 = .ok (.getfield 139, 3) := by decide +kernel
theorem dX12_closes_26 : decode cX12_closes 26 = .ok (.if_icmp .ge 29, 3) := by decide +kernel
theorem dX12_closes_29 : decode cX12_closes 29 = .ok (.aload_n 0, 1) := by decide +kernel
theorem dX12_closes_30 : decode cX12_closes 30 = .ok (.iload_n 1, 1) := by decide +kernel
theorem dX12_closes_31 : decode cX12_closes 31 = .ok (.iload_n 2, 1) := by decide +kernel
theorem dX12_closes_32 : decode cX12_closes 32 = .ok (.invokevirtual 192, 3) := by decide +kernel
theorem dX12_closes_35 : decode cX12_closes 35 = .ok (.ifCond .eq 12, 3) := by decide +kernel
theorem dX12_closes_38 : decode cX12_closes 38 = .ok (.aload_n 0, 1) := by decide +kernel
theorem dX12_closes_39 : decode cX12_closes 39 = .ok (.iload_n 1, 1) := by decide +kernel
theorem dX12_closes_40 : decode cX12_closes 40 = .ok (.iload_n 2, 1) := by decide +kernel
theorem dX12_closes_41 : decode cX12_closes 41 = .ok (.invokevirtual 195, 3) := by decide +kernel
theorem dX12_closes_44 : decode cX12_closes 44 = .ok (.ifCond .ne 5, 3) := by decide +kernel
theorem dX12_closes_47 : decode cX12_closes 47 = .ok (.iconst 0, 1) := by decide +kernel
theorem dX12_closes_48 : decode cX12_closes 48 = .ok (.ireturn, 1) := by decide +kernel
theorem dX12_closes_49 : decode cX12_closes 49 = .ok (.iinc 2 1, 3) := by decide +kernel
theorem dX12_closes_52 : decode cX12_closes 52 = .ok (.goto (-31), 3) := by decide +kernel
theorem dX12_closes_55 : decode cX12_closes 55 = .ok (.iinc 1 1, 3) := by decide +kernel
theorem dX12_closes_58 : decode cX12_closes 58 = .ok (.goto (-47), 3) := by decide +kernel
theorem dX12_closes_61 : decode cX12_closes 61 = .ok (.iconst 1, 1) := by decide +kernel
theorem dX12_closes_62 : decode cX12_closes 62 = .ok (.ireturn, 1) := by decide +kernel
theorem dX12_copy_0 : decode cX12_copy 0 = .ok (.aload_n 0, 1) := by decide +kernel
theorem dX12_copy_1 : decode cX12_copy 1 = .ok (.getfield 13, 3) := by decide +kernel
theorem dX12_copy_4 : decode cX12_copy 4 = .ok (.iload_n 2, 1) := by decide +kernel
theorem dX12_copy_5 : decode cX12_copy 5 = .ok (.aload_n 0, 1) := by decide +kernel
theorem dX12_copy_6 : decode cX12_copy 6 = .ok (.getfield 13, 3) := by decide +kernel
theorem dX12_copy_9 : decode cX12_copy 9 = .ok (.iload_n 1, 1) := by decide +kernel
theorem dX12_copy_10 : decode cX12_copy 10 = .ok (.iaload, 1) := by decide +kernel
theorem dX12_copy_11 : decode cX12_copy 11 = .ok (.iastore, 1) := by decide +kernel
theorem dX12_copy_12 : decode cX12_copy 12 = .ok (.iconst 0, 1) := by decide +kernel
theorem dX12_copy_13 : decode cX12_copy 13 = .ok (.istore_n 3, 1) := by decide +kernel
theorem dX12_copy_14 : decode cX12_copy 14 = .ok (.iload_n 3, 1) := by decide +kernel
theorem dX12_copy_15 : decode cX12_copy 15 = .ok (.aload_n 0, 1) := by decide +kernel
theorem dX12_copy_16 : decode cX12_copy 16 = .ok (.getfield 13, 3) := by decide +kernel
theorem dX12_copy_19 : decode cX12_copy 19 = .ok (.iload_n 1, 1) := by decide +kernel
theorem dX12_copy_20 : decode cX12_copy 20 = .ok (.iaload, 1) := by decide +kernel
theorem dX12_copy_21 : decode cX12_copy 21 = .ok (.if_icmp .ge 33, 3) := by decide +kernel
theorem dX12_copy_24 : decode cX12_copy 24 = .ok (.aload_n 0, 1) := by decide +kernel
theorem dX12_copy_25 : decode cX12_copy 25 = .ok (.getfield 17, 3) := by decide +kernel
theorem dX12_copy_28 : decode cX12_copy 28 = .ok (.sipush 128, 3) := by decide +kernel
theorem dX12_copy_31 : decode cX12_copy 31 = .ok (.iload_n 2, 1) := by decide +kernel
theorem dX12_copy_32 : decode cX12_copy 32 = .ok (.imul, 1) := by decide +kernel
theorem dX12_copy_33 : decode cX12_copy 33 = .ok (.iload_n 3, 1) := by decide +kernel
theorem dX12_copy_34 : decode cX12_copy 34 = .ok (.iadd, 1) := by decide +kernel
theorem dX12_copy_35 : decode cX12_copy 35 = .ok (.aload_n 0, 1) := by decide +kernel
theorem dX12_copy_36 : decode cX12_copy 36 = .ok (.getfield 17, 3) := by decide +kernel
theorem dX12_copy_39 : decode cX12_copy 39 = .ok (.sipush 128, 3) := by decide +kernel
theorem dX12_copy_42 : decode cX12_copy 42 = .ok (.iload_n 1, 1) := by decide +kernel
theorem dX12_copy_43 : decode cX12_copy 43 = .ok (.imul, 1) := by decide +kernel
theorem dX12_copy_44 : decode cX12_copy 44 = .ok (.iload_n 3, 1) := by decide +kernel
theorem dX12_copy_45 : decode cX12_copy 45 = .ok (.iadd, 1) := by decide +kernel
theorem dX12_copy_46 : decode cX12_copy 46 = .ok (.iaload, 1) := by decide +kernel
theorem dX12_copy_47 : decode cX12_copy 47 = .ok (.iastore, 1) := by decide +kernel
theorem dX12_copy_48 : decode cX12_copy 48 = .ok (.iinc 3 1, 3) := by decide +kernel
theorem dX12_copy_51 : decode cX12_copy 51 = .ok (.goto (-37), 3) := by decide +kernel
theorem dX12_copy_54 : decode cX12_copy 54 = .ok (.return_, 1) := by decide +kernel
set_option maxRecDepth 20000 in
theorem ggX12_count_X12_in : GoodIn wsX12_count wsX12_in := goodIn_r _ [8] (by decide +kernel) (by decide +kernel)
set_option maxRecDepth 20000 in
theorem gX12_count_X12_in : GoodIn wsX12_count (va_wsS RX12 93 yX12_in wsX12_in) := goodIn_app (goodIn_of _ (by decide +kernel)) ggX12_count_X12_in
set_option maxRecDepth 20000 in
theorem ggX12_count_X12_isMachine : GoodIn wsX12_count wsX12_isMachine := goodIn_r _ [12, 13, 14, 15, 16, 17, 18, 19, 20, 21, 22, 23, 24, 25, 26, 27, 28, 29, 30, 31, 32, 33, 34, 35, 36, 37, 38, 39, 40, 41, 42, 43, 44, 45, 46, 47, 48] (by decide +kernel) (by decide +kernel)
set_option maxRecDepth 20000 in
theorem gX12_count_X12_isMachine : GoodIn wsX12_count (wsV RX12 229 RX12 yX12_isMachine wsX12_isMachine) := goodIn_app (goodIn_of _ (by decide +kernel)) ggX12_count_X12_isMachine
theorem dX12_count_0 : decode cX12_count 0 = .ok (.iload_n 1, 1) := by decide +kernel
theorem dX12_count_1 : decode cX12_count 1 = .ok (.i2l, 1) := by decide +kernel
theorem dX12_count_2 : decode cX12_count 2 = .ok (.lconst 0, 1) := by decide +kernel
theorem dX12_count_3 : decode cX12_count 3 = .ok (.ldc2_w 232, 3) := by decide +kernel
theorem dX12_count_6 : decode cX12_count 6 = .ok (.invokestatic 93, 3) := by decide +kernel
theorem dX12_count_9 : decode cX12_count 9 = .ok (.ifCond .ne 7, 3) := by decide +kernel
theorem dX12_count_12 : decode cX12_count 12 = .ok (.ldc2_w 234, 3) := by decide +kernel
theorem dX12_count_15 : decode cX12_count 15 = .ok (.lreturn, 1) := by decide +kernel
theorem dX12_count_16 : decode cX12_count 16 = .ok (.aload_n 0, 1) := by decide +kernel
theorem dX12_count_17 : decode cX12_count 17 = .ok (.invokevirtual 229, 3) := by decide +kernel
theorem dX12_count_20 : decode cX12_count 20 = .ok (.ifCond .eq 12, 3) := by decide +kernel
theorem dX12_count_23 : decode cX12_count 23 = .ok (.aload_n 0, 1) := by decide +kernel
theorem dX12_count_24 : decode cX12_count 24 = .ok (.getfield 74, 3) := by decide +kernel
theorem dX12_count_27 : decode cX12_count 27 = .ok (.iload_n 1, 1) := by decide +kernel
theorem dX12_count_28 : decode cX12_count 28 = .ok (.laload, 1) := by decide +kernel
theorem dX12_count_29 : decode cX12_count 29 = .ok (.goto 6, 3) := by decide +kernel
theorem dX12_count_32 : decode cX12_count 32 = .ok (.ldc2_w 236, 3) := by decide +kernel
theorem dX12_count_35 : decode cX12_count 35 = .ok (.lreturn, 1) := by decide +kernel
set_option maxRecDepth 20000 in
theorem ggX12_countAll_X12_next : GoodIn wsX12_countAll wsX12_next := goodIn_r _ [8, 9, 10, 11, 12, 13, 14, 15, 16, 17, 18, 19, 20, 21, 22, 23, 24, 25, 26, 27, 28, 29, 30, 31, 32, 33, 34, 35, 36, 37, 38, 39, 40, 41, 42, 43, 44, 45, 46] rfl (by decide +kernel)
set_option maxRecDepth 20000 in
theorem gX12_countAll_X12_next : GoodIn wsX12_countAll (wsV RX12 226 RX12 yX12_next wsX12_next) := goodIn_app (goodIn_of _ (by decide +kernel)) ggX12_countAll_X12_next
theorem dX12_countAll_0 : decode cX12_countAll 0 = .ok (.iconst 0, 1) := by decide +kernel
theorem dX12_countAll_1 : decode cX12_countAll 1 = .ok (.istore_n 1, 1) := by decide +kernel
theorem dX12_countAll_2 : decode cX12_countAll 2 = .ok (.iload_n 1, 1) := by decide +kernel
theorem dX12_countAll_3 : decode cX12_countAll 3 = .ok (.bipush 30, 2) := by decide +kernel
theorem dX12_countAll_5 : decode cX12_countAll 5 = .ok (.if_icmp .gt 106, 3) := by decide +kernel
theorem dX12_countAll_8 : decode cX12_countAll 8 = .ok (.iconst 0, 1) := by decide +kernel
theorem dX12_countAll_9 : decode cX12_countAll 9 = .ok (.istore_n 2, 1) := by decide +kernel
theorem dX12_countAll_10 : decode cX12_countAll 10 = .ok (.iload_n 2, 1) := by decide +kernel
theorem dX12_countAll_11 : decode cX12_countAll 11 = .ok (.aload_n 0, 1) := by decide +kernel
theorem dX12_countAll_12 : decode cX12_countAll 12 = .ok (.getfield 164, 3) := by decide +kernel
theorem dX12_countAll_15 : decode cX12_countAll 15 = .ok (.if_icmp .ge 90, 3) := by decide +kernel
theorem dX12_countAll_18 : decode cX12_countAll 18 = .ok (.iload_n 1, 1) := by decide +kernel
theorem dX12_countAll_19 : decode cX12_countAll 19 = .ok (.ifCond .ne 7, 3) := by decide +kernel
theorem dX12_countAll_22 : decode cX12_countAll 22 = .ok (.lconst 1, 1) := by decide +kernel
theorem dX12_countAll_23 : decode cX12_countAll 23 = .ok (.goto 4, 3) := by decide +kernel
theorem dX12_countAll_26 : decode cX12_countAll 26 = .ok (.lconst 0, 1) := by decide +kernel
theorem dX12_countAll_27 : decode cX12_countAll 27 = .ok (.lstore_n 3, 1) := by decide +kernel
theorem dX12_countAll_28 : decode cX12_countAll 28 = .ok (.iconst 0, 1) := by decide +kernel
theorem dX12_countAll_29 : decode cX12_countAll 29 = .ok (.istore 5, 2) := by decide +kernel
theorem dX12_countAll_31 : decode cX12_countAll 31 = .ok (.iload 5, 2) := by decide +kernel
theorem dX12_countAll_33 : decode cX12_countAll 33 = .ok (.aload_n 0, 1) := by decide +kernel
theorem dX12_countAll_34 : decode cX12_countAll 34 = .ok (.getfield 7, 3) := by decide +kernel
theorem dX12_countAll_37 : decode cX12_countAll 37 = .ok (.if_icmp .ge 50, 3) := by decide +kernel
theorem dX12_countAll_40 : decode cX12_countAll 40 = .ok (.iload_n 1, 1) := by decide +kernel
theorem dX12_countAll_41 : decode cX12_countAll 41 = .ok (.ifCond .le 46, 3) := by decide +kernel
theorem dX12_countAll_44 : decode cX12_countAll 44 = .ok (.aload_n 0, 1) := by decide +kernel
theorem dX12_countAll_45 : decode cX12_countAll 45 = .ok (.iload_n 2, 1) := by decide +kernel
theorem dX12_countAll_46 : decode cX12_countAll 46 = .ok (.iload 5, 2) := by decide +kernel
theorem dX12_countAll_48 : decode cX12_countAll 48 = .ok (.invokevirtual 226, 3) := by decide +kernel
theorem dX12_countAll_51 : decode cX12_countAll 51 = .ok (.istore 6, 2) := by decide +kernel
theorem dX12_countAll_53 : decode cX12_countAll 53 = .ok (.lload_n 3, 1) := by decide +kernel
theorem dX12_countAll_54 : decode cX12_countAll 54 = .ok (.iload 6, 2) := by decide +kernel
theorem dX12_countAll_56 : decode cX12_countAll 56 = .ok (.bipush (-9), 2) := by decide +kernel
theorem dX12_countAll_58 : decode cX12_countAll 58 = .ok (.if_icmp .ne 7, 3) := by decide +kernel
theorem dX12_countAll_61 : decode cX12_countAll 61 = .ok (.lconst 0, 1) := by decide +kernel
theorem dX12_countAll_62 : decode cX12_countAll 62 = .ok (.goto 17, 3) := by decide +kernel
theorem dX12_countAll_65 : decode cX12_countAll 65 = .ok (.aload_n 0, 1) := by decide +kernel
theorem dX12_countAll_66 : decode cX12_countAll 66 = .ok (.getfield 74, 3) := by decide +kernel
theorem dX12_countAll_69 : decode cX12_countAll 69 = .ok (.bipush 31, 2) := by decide +kernel
theorem dX12_countAll_71 : decode cX12_countAll 71 = .ok (.iload 6, 2) := by decide +kernel
theorem dX12_countAll_73 : decode cX12_countAll 73 = .ok (.imul, 1) := by decide +kernel
theorem dX12_countAll_74 : decode cX12_countAll 74 = .ok (.iload_n 1, 1) := by decide +kernel
theorem dX12_countAll_75 : decode cX12_countAll 75 = .ok (.iadd, 1) := by decide +kernel
theorem dX12_countAll_76 : decode cX12_countAll 76 = .ok (.iconst 1, 1) := by decide +kernel
theorem dX12_countAll_77 : decode cX12_countAll 77 = .ok (.isub, 1) := by decide +kernel
theorem dX12_countAll_78 : decode cX12_countAll 78 = .ok (.laload, 1) := by decide +kernel
theorem dX12_countAll_79 : decode cX12_countAll 79 = .ok (.ladd, 1) := by decide +kernel
theorem dX12_countAll_80 : decode cX12_countAll 80 = .ok (.lstore_n 3, 1) := by decide +kernel
theorem dX12_countAll_81 : decode cX12_countAll 81 = .ok (.iinc 5 1, 3) := by decide +kernel
theorem dX12_countAll_84 : decode cX12_countAll 84 = .ok (.goto (-53), 3) := by decide +kernel
theorem dX12_countAll_87 : decode cX12_countAll 87 = .ok (.aload_n 0, 1) := by decide +kernel
theorem dX12_countAll_88 : decode cX12_countAll 88 = .ok (.getfield 74, 3) := by decide +kernel
theorem dX12_countAll_91 : decode cX12_countAll 91 = .ok (.bipush 31, 2) := by decide +kernel
theorem dX12_countAll_93 : decode cX12_countAll 93 = .ok (.iload_n 2, 1) := by decide +kernel
theorem dX12_countAll_94 : decode cX12_countAll 94 = .ok (.imul, 1) := by decide +kernel
theorem dX12_countAll_95 : decode cX12_countAll 95 = .ok (.iload_n 1, 1) := by decide +kernel
theorem dX12_countAll_96 : decode cX12_countAll 96 = .ok (.iadd, 1) := by decide +kernel
theorem dX12_countAll_97 : decode cX12_countAll 97 = .ok (.lload_n 3, 1) := by decide +kernel
theorem dX12_countAll_98 : decode cX12_countAll 98 = .ok (.lastore, 1) := by decide +kernel
theorem dX12_countAll_99 : decode cX12_countAll 99 = .ok (.iinc 2 1, 3) := by decide +kernel
theorem dX12_countAll_102 : decode cX12_countAll 102 = .ok (.goto (-92), 3) := by decide +kernel
theorem dX12_countAll_105 : decode cX12_countAll 105 = .ok (.iinc 1 1, 3) := by decide +kernel
theorem dX12_countAll_108 : decode cX12_countAll 108 = .ok (.goto (-106), 3) := by decide +kernel
theorem dX12_countAll_111 : decode cX12_countAll 111 = .ok (.return_, 1) := by decide +kernel
set_option maxRecDepth 20000 in
theorem ggX12_findRules_X12_isLeast : GoodIn wsX12_findRules wsX12_isLeast := goodIn_r _ [7, 8, 45, 46, 47, 48, 49, 50, 51, 52, 53, 54, 55, 56, 57, 58, 59, 60, 61, 62, 63, 64, 65, 66, 67, 68, 69, 70, 71, 72, 73, 74, 75, 76, 77, 78] (by decide +kernel) (by decide +kernel)
set_option maxRecDepth 20000 in
theorem gX12_findRules_X12_isLeast : GoodIn wsX12_findRules (wsV RX12 142 RX12 yX12_isLeast wsX12_isLeast) := goodIn_app (goodIn_of _ (by decide +kernel)) ggX12_findRules_X12_isLeast
set_option maxRecDepth 20000 in
theorem ggX12_findRules_X12_layAny : GoodIn wsX12_findRules wsX12_layAny := goodIn_r _ [12, 13, 14, 15, 16, 17, 18, 6, 19, 20, 45, 46, 47, 48, 49, 50, 51, 52, 53, 54, 55, 56, 57, 58, 59, 60, 61, 62, 63, 64, 65, 66, 67, 68, 69, 70, 71, 72, 73, 74, 75, 76, 77, 78] rfl (by decide +kernel)
set_option maxRecDepth 20000 in
theorem gX12_findRules_X12_layAny : GoodIn wsX12_findRules (wsV RX12 145 RX12 yX12_layAny wsX12_layAny) := goodIn_app (goodIn_of _ (by decide +kernel)) ggX12_findRules_X12_layAny
set_option maxRecDepth 20000 in
theorem ggX12_findRules_X12_withoutFirst : GoodIn wsX12_findRules wsX12_withoutFirst := goodIn_r _ [24, 13, 20, 14, 25, 26, 27, 6, 28, 45, 46, 47, 48, 49, 50, 51, 52, 53, 54, 55, 56, 57, 58, 59, 60, 61, 62, 63, 64, 65, 66, 67, 68, 69, 70, 71, 72, 73, 74, 75, 76, 77, 78] rfl (by decide +kernel)
set_option maxRecDepth 20000 in
theorem gX12_findRules_X12_withoutFirst : GoodIn wsX12_findRules (wsV RX12 148 RX12 yX12_withoutFirst wsX12_withoutFirst) := goodIn_app (goodIn_of _ (by decide +kernel)) ggX12_findRules_X12_withoutFirst
set_option maxRecDepth 20000 in
theorem ggX12_findRules_X12_withoutLast : GoodIn wsX12_findRules wsX12_withoutLast := goodIn_r _ [32, 13, 20, 14, 45, 46, 47, 48, 49, 50, 51, 52, 53, 54, 55, 56, 57, 58, 59, 60, 61, 62, 63, 64, 65, 66, 67, 68, 69, 70, 71, 72, 73, 74, 75, 76, 77, 78] rfl (by decide +kernel)
set_option maxRecDepth 20000 in
theorem gX12_findRules_X12_withoutLast : GoodIn wsX12_findRules (wsV RX12 151 RX12 yX12_withoutLast wsX12_withoutLast) := goodIn_app (goodIn_of _ (by decide +kernel)) ggX12_findRules_X12_withoutLast
set_option maxRecDepth 20000 in
theorem ggX12_findRules_X12_keepRule : GoodIn wsX12_findRules wsX12_keepRule := goodIn_r _ [36, 37, 1, 14, 38, 15, 39, 40, 41, 42, 43, 6, 44, 8, 9, 10, 11, 12, 13, 16, 17, 18, 19, 20, 45, 46, 47, 48, 49, 50, 51, 52, 53, 54, 55, 56, 57, 58, 59, 60, 61, 62, 63, 64, 65, 66, 67, 68, 69, 70, 71, 72, 73, 74, 75, 76, 77, 78] rfl (by decide +kernel)
set_option maxRecDepth 20000 in
theorem gX12_findRules_X12_keepRule : GoodIn wsX12_findRules (wsV RX12 154 RX12 yX12_keepRule wsX12_keepRule) := goodIn_app (goodIn_of _ (by decide +kernel)) ggX12_findRules_X12_keepRule
theorem dX12_findRules_0 : decode cX12_findRules 0 = .ok (.aload_n 0, 1) := by decide +kernel
theorem dX12_findRules_1 : decode cX12_findRules 1 = .ok (.iconst 0, 1) := by decide +kernel
theorem dX12_findRules_2 : decode cX12_findRules 2 = .ok (.putfield 139, 3) := by decide +kernel
theorem dX12_findRules_5 : decode cX12_findRules 5 = .ok (.iconst 1, 1) := by decide +kernel
theorem dX12_findRules_6 : decode cX12_findRules 6 = .ok (.istore_n 1, 1) := by decide +kernel
theorem dX12_findRules_7 : decode cX12_findRules 7 = .ok (.iload_n 1, 1) := by decide +kernel
theorem dX12_findRules_8 : decode cX12_findRules 8 = .ok (.aload_n 0, 1) := by decide +kernel
theorem dX12_findRules_9 : decode cX12_findRules 9 = .ok (.getfield 122, 3) := by decide +kernel
theorem dX12_findRules_12 : decode cX12_findRules 12 = .ok (.if_icmp .ge 62, 3) := by decide +kernel
theorem dX12_findRules_15 : decode cX12_findRules 15 = .ok (.aload_n 0, 1) := by decide +kernel
theorem dX12_findRules_16 : decode cX12_findRules 16 = .ok (.iload_n 1, 1) := by decide +kernel
theorem dX12_findRules_17 : decode cX12_findRules 17 = .ok (.invokevirtual 142, 3) := by decide +kernel
theorem dX12_findRules_20 : decode cX12_findRules 20 = .ok (.ifCond .ne 48, 3) := by decide +kernel
theorem dX12_findRules_23 : decode cX12_findRules 23 = .ok (.aload_n 0, 1) := by decide +kernel
theorem dX12_findRules_24 : decode cX12_findRules 24 = .ok (.iload_n 1, 1) := by decide +kernel
theorem dX12_findRules_25 : decode cX12_findRules 25 = .ok (.invokevirtual 145, 3) := by decide +kernel
theorem dX12_findRules_28 : decode cX12_findRules 28 = .ok (.aload_n 0, 1) := by decide +kernel
theorem dX12_findRules_29 : decode cX12_findRules 29 = .ok (.aload_n 0, 1) := by decide +kernel
theorem dX12_findRules_30 : decode cX12_findRules 30 = .ok (.iload_n 1, 1) := by decide +kernel
theorem dX12_findRules_31 : decode cX12_findRules 31 = .ok (.invokevirtual 148, 3) := by decide +kernel
theorem dX12_findRules_34 : decode cX12_findRules 34 = .ok (.invokevirtual 142, 3) := by decide +kernel
theorem dX12_findRules_37 : decode cX12_findRules 37 = .ok (.ifCond .eq 31, 3) := by decide +kernel
theorem dX12_findRules_40 : decode cX12_findRules 40 = .ok (.aload_n 0, 1) := by decide +kernel
theorem dX12_findRules_41 : decode cX12_findRules 41 = .ok (.aload_n 0, 1) := by decide +kernel
theorem dX12_findRules_42 : decode cX12_findRules 42 = .ok (.iload_n 1, 1) := by decide +kernel
theorem dX12_findRules_43 : decode cX12_findRules 43 = .ok (.invokevirtual 151, 3) := by decide +kernel
theorem dX12_findRules_46 : decode cX12_findRules 46 = .ok (.invokevirtual 142, 3) := by decide +kernel
theorem dX12_findRules_49 : decode cX12_findRules 49 = .ok (.ifCond .eq 19, 3) := by decide +kernel
theorem dX12_findRules_52 : decode cX12_findRules 52 = .ok (.aload_n 0, 1) := by decide +kernel
theorem dX12_findRules_53 : decode cX12_findRules 53 = .ok (.getfield 139, 3) := by decide +kernel
theorem dX12_findRules_56 : decode cX12_findRules 56 = .ok (.bipush 40, 2) := by decide +kernel
theorem dX12_findRules_58 : decode cX12_findRules 58 = .ok (.if_icmp .ne 5, 3) := by decide +kernel
theorem dX12_findRules_61 : decode cX12_findRules 61 = .ok (.iconst 0, 1) := by decide +kernel
theorem dX12_findRules_62 : decode cX12_findRules 62 = .ok (.ireturn, 1) := by decide +kernel
theorem dX12_findRules_63 : decode cX12_findRules 63 = .ok (.aload_n 0, 1) := by decide +kernel
theorem dX12_findRules_64 : decode cX12_findRules 64 = .ok (.iload_n 1, 1) := by decide +kernel
theorem dX12_findRules_65 : decode cX12_findRules 65 = .ok (.invokevirtual 154, 3) := by decide +kernel
theorem dX12_findRules_68 : decode cX12_findRules 68 = .ok (.iinc 1 1, 3) := by decide +kernel
theorem dX12_findRules_71 : decode cX12_findRules 71 = .ok (.goto (-64), 3) := by decide +kernel
theorem dX12_findRules_74 : decode cX12_findRules 74 = .ok (.iconst 1, 1) := by decide +kernel
theorem dX12_findRules_75 : decode cX12_findRules 75 = .ok (.ireturn, 1) := by decide +kernel
theorem dX12_free_0 : decode cX12_free 0 = .ok (.aload_n 0, 1) := by decide +kernel
theorem dX12_free_1 : decode cX12_free 1 = .ok (.getfield 99, 3) := by decide +kernel
theorem dX12_free_4 : decode cX12_free 4 = .ok (.istore_n 1, 1) := by decide +kernel
theorem dX12_free_5 : decode cX12_free 5 = .ok (.aload_n 0, 1) := by decide +kernel
theorem dX12_free_6 : decode cX12_free 6 = .ok (.iconst 0, 1) := by decide +kernel
theorem dX12_free_7 : decode cX12_free 7 = .ok (.putfield 99, 3) := by decide +kernel
theorem dX12_free_10 : decode cX12_free 10 = .ok (.aload_n 0, 1) := by decide +kernel
theorem dX12_free_11 : decode cX12_free 11 = .ok (.bipush (-9), 2) := by decide +kernel
theorem dX12_free_13 : decode cX12_free 13 = .ok (.putfield 26, 3) := by decide +kernel
theorem dX12_free_16 : decode cX12_free 16 = .ok (.iload_n 1, 1) := by decide +kernel
theorem dX12_free_17 : decode cX12_free 17 = .ok (.ireturn, 1) := by decide +kernel
theorem dX12_in_0 : decode cX12_in 0 = .ok (.lload_n 0, 1) := by decide +kernel
theorem dX12_in_1 : decode cX12_in 1 = .ok (.lload_n 2, 1) := by decide +kernel
theorem dX12_in_2 : decode cX12_in 2 = .ok (.lcmp, 1) := by decide +kernel
theorem dX12_in_3 : decode cX12_in 3 = .ok (.ifCond .lt 14, 3) := by decide +kernel
theorem dX12_in_6 : decode cX12_in 6 = .ok (.lload_n 0, 1) := by decide +kernel
theorem dX12_in_7 : decode cX12_in 7 = .ok (.lload 4, 2) := by decide +kernel
theorem dX12_in_9 : decode cX12_in 9 = .ok (.lcmp, 1) := by decide +kernel
theorem dX12_in_10 : decode cX12_in 10 = .ok (.ifCond .gt 7, 3) := by decide +kernel
theorem dX12_in_13 : decode cX12_in 13 = .ok (.iconst 1, 1) := by decide +kernel
theorem dX12_in_14 : decode cX12_in 14 = .ok (.goto 4, 3) := by decide +kernel
theorem dX12_in_17 : decode cX12_in 17 = .ok (.iconst 0, 1) := by decide +kernel
theorem dX12_in_18 : decode cX12_in 18 = .ok (.ireturn, 1) := by decide +kernel
theorem dX12_init_0 : decode cX12_init 0 = .ok (.aload_n 0, 1) := by decide +kernel
theorem dX12_init_1 : decode cX12_init 1 = .ok (.invokespecial 1, 3) := by decide +kernel
theorem dX12_init_4 : decode cX12_init 4 = .ok (.aload_n 0, 1) := by decide +kernel
theorem dX12_init_5 : decode cX12_init 5 = .ok (.iconst 2, 1) := by decide +kernel
theorem dX12_init_6 : decode cX12_init 6 = .ok (.putfield 7, 3) := by decide +kernel
theorem dX12_init_9 : decode cX12_init 9 = .ok (.aload_n 0, 1) := by decide +kernel
theorem dX12_init_10 : decode cX12_init 10 = .ok (.bipush 13, 2) := by decide +kernel
theorem dX12_init_12 : decode cX12_init 12 = .ok (.newarray .int, 2) := by decide +kernel
theorem dX12_init_14 : decode cX12_init 14 = .ok (.putfield 13, 3) := by decide +kernel
theorem dX12_init_17 : decode cX12_init 17 = .ok (.aload_n 0, 1) := by decide +kernel
theorem dX12_init_18 : decode cX12_init 18 = .ok (.sipush 1664, 3) := by decide +kernel
theorem dX12_init_21 : decode cX12_init 21 = .ok (.newarray .int, 2) := by decide +kernel
theorem dX12_init_23 : decode cX12_init 23 = .ok (.putfield 17, 3) := by decide +kernel
theorem dX12_init_26 : decode cX12_init 26 = .ok (.aload_n 0, 1) := by decide +kernel
theorem dX12_init_27 : decode cX12_init 27 = .ok (.bipush 16, 2) := by decide +kernel
theorem dX12_init_29 : decode cX12_init 29 = .ok (.newarray .int, 2) := by decide +kernel
theorem dX12_init_31 : decode cX12_init 31 = .ok (.putfield 20, 3) := by decide +kernel
theorem dX12_init_34 : decode cX12_init 34 = .ok (.aload_n 0, 1) := by decide +kernel
theorem dX12_init_35 : decode cX12_init 35 = .ok (.sipush 192, 3) := by decide +kernel
theorem dX12_init_38 : decode cX12_init 38 = .ok (.newarray .int, 2) := by decide +kernel
theorem dX12_init_40 : decode cX12_init 40 = .ok (.putfield 23, 3) := by decide +kernel
theorem dX12_init_43 : decode cX12_init 43 = .ok (.aload_n 0, 1) := by decide +kernel
theorem dX12_init_44 : decode cX12_init 44 = .ok (.bipush (-9), 2) := by decide +kernel
theorem dX12_init_46 : decode cX12_init 46 = .ok (.putfield 26, 3) := by decide +kernel
theorem dX12_init_49 : decode cX12_init 49 = .ok (.aload_n 0, 1) := by decide +kernel
theorem dX12_init_50 : decode cX12_init 50 = .ok (.bipush 64, 2) := by decide +kernel
theorem dX12_init_52 : decode cX12_init 52 = .ok (.newarray .int, 2) := by decide +kernel
theorem dX12_init_54 : decode cX12_init 54 = .ok (.putfield 29, 3) := by decide +kernel
theorem dX12_init_57 : decode cX12_init 57 = .ok (.aload_n 0, 1) := by decide +kernel
theorem dX12_init_58 : decode cX12_init 58 = .ok (.sipush 10001, 3) := by decide +kernel
theorem dX12_init_61 : decode cX12_init 61 = .ok (.newarray .int, 2) := by decide +kernel
theorem dX12_init_63 : decode cX12_init 63 = .ok (.putfield 32, 3) := by decide +kernel
theorem dX12_init_66 : decode cX12_init 66 = .ok (.aload_n 0, 1) := by decide +kernel
theorem dX12_init_67 : decode cX12_init 67 = .ok (.bipush 64, 2) := by decide +kernel
theorem dX12_init_69 : decode cX12_init 69 = .ok (.newarray .int, 2) := by decide +kernel
theorem dX12_init_71 : decode cX12_init 71 = .ok (.putfield 35, 3) := by decide +kernel
theorem dX12_init_74 : decode cX12_init 74 = .ok (.aload_n 0, 1) := by decide +kernel
theorem dX12_init_75 : decode cX12_init 75 = .ok (.bipush 40, 2) := by decide +kernel
theorem dX12_init_77 : decode cX12_init 77 = .ok (.newarray .int, 2) := by decide +kernel
theorem dX12_init_79 : decode cX12_init 79 = .ok (.putfield 38, 3) := by decide +kernel
theorem dX12_init_82 : decode cX12_init 82 = .ok (.aload_n 0, 1) := by decide +kernel
theorem dX12_init_83 : decode cX12_init 83 = .ok (.sipush 960, 3) := by decide +kernel
theorem dX12_init_86 : decode cX12_init 86 = .ok (.newarray .int, 2) := by decide +kernel
theorem dX12_init_88 : decode cX12_init 88 = .ok (.putfield 41, 3) := by decide +kernel
theorem dX12_init_91 : decode cX12_init 91 = .ok (.aload_n 0, 1) := by decide +kernel
theorem dX12_init_92 : decode cX12_init 92 = .ok (.bipush 40, 2) := by decide +kernel
theorem dX12_init_94 : decode cX12_init 94 = .ok (.newarray .int, 2) := by decide +kernel
theorem dX12_init_96 : decode cX12_init 96 = .ok (.putfield 44, 3) := by decide +kernel
theorem dX12_init_99 : decode cX12_init 99 = .ok (.aload_n 0, 1) := by decide +kernel
theorem dX12_init_100 : decode cX12_init 100 = .ok (.sipush 960, 3) := by decide +kernel
theorem dX12_init_103 : decode cX12_init 103 = .ok (.newarray .int, 2) := by decide +kernel
theorem dX12_init_105 : decode cX12_init 105 = .ok (.putfield 47, 3) := by decide +kernel
theorem dX12_init_108 : decode cX12_init 108 = .ok (.aload_n 0, 1) := by decide +kernel
theorem dX12_init_109 : decode cX12_init 109 = .ok (.sipush 3400, 3) := by decide +kernel
theorem dX12_init_112 : decode cX12_init 112 = .ok (.newarray .int, 2) := by decide +kernel
theorem dX12_init_114 : decode cX12_init 114 = .ok (.putfield 50, 3) := by decide +kernel
theorem dX12_init_117 : decode cX12_init 117 = .ok (.aload_n 0, 1) := by decide +kernel
theorem dX12_init_118 : decode cX12_init 118 = .ok (.sipush 3400, 3) := by decide +kernel
theorem dX12_init_121 : decode cX12_init 121 = .ok (.newarray .int, 2) := by decide +kernel
theorem dX12_init_123 : decode cX12_init 123 = .ok (.putfield 53, 3) := by decide +kernel
theorem dX12_init_126 : decode cX12_init 126 = .ok (.aload_n 0, 1) := by decide +kernel
theorem dX12_init_127 : decode cX12_init 127 = .ok (.sipush 850, 3) := by decide +kernel
theorem dX12_init_130 : decode cX12_init 130 = .ok (.newarray .int, 2) := by decide +kernel
theorem dX12_init_132 : decode cX12_init 132 = .ok (.putfield 56, 3) := by decide +kernel
theorem dX12_init_135 : decode cX12_init 135 = .ok (.aload_n 0, 1) := by decide +kernel
theorem dX12_init_136 : decode cX12_init 136 = .ok (.sipush 850, 3) := by decide +kernel
theorem dX12_init_139 : decode cX12_init 139 = .ok (.newarray .int, 2) := by decide +kernel
theorem dX12_init_141 : decode cX12_init 141 = .ok (.putfield 59, 3) := by decide +kernel
theorem dX12_init_144 : decode cX12_init 144 = .ok (.aload_n 0, 1) := by decide +kernel
theorem dX12_init_145 : decode cX12_init 145 = .ok (.sipush 850, 3) := by decide +kernel
theorem dX12_init_148 : decode cX12_init 148 = .ok (.newarray .int, 2) := by decide +kernel
theorem dX12_init_150 : decode cX12_init 150 = .ok (.putfield 62, 3) := by decide +kernel
theorem dX12_init_153 : decode cX12_init 153 = .ok (.aload_n 0, 1) := by decide +kernel
theorem dX12_init_154 : decode cX12_init 154 = .ok (.sipush 850, 3) := by decide +kernel
theorem dX12_init_157 : decode cX12_init 157 = .ok (.newarray .int, 2) := by decide +kernel
theorem dX12_init_159 : decode cX12_init 159 = .ok (.putfield 65, 3) := by decide +kernel
theorem dX12_init_162 : decode cX12_init 162 = .ok (.aload_n 0, 1) := by decide +kernel
theorem dX12_init_163 : decode cX12_init 163 = .ok (.sipush 850, 3) := by decide +kernel
theorem dX12_init_166 : decode cX12_init 166 = .ok (.newarray .int, 2) := by decide +kernel
theorem dX12_init_168 : decode cX12_init 168 = .ok (.putfield 68, 3) := by decide +kernel
theorem dX12_init_171 : decode cX12_init 171 = .ok (.aload_n 0, 1) := by decide +kernel
theorem dX12_init_172 : decode cX12_init 172 = .ok (.sipush 130, 3) := by decide +kernel
theorem dX12_init_175 : decode cX12_init 175 = .ok (.newarray .int, 2) := by decide +kernel
theorem dX12_init_177 : decode cX12_init 177 = .ok (.putfield 71, 3) := by decide +kernel
theorem dX12_init_180 : decode cX12_init 180 = .ok (.aload_n 0, 1) := by decide +kernel
theorem dX12_init_181 : decode cX12_init 181 = .ok (.sipush 26350, 3) := by decide +kernel
theorem dX12_init_184 : decode cX12_init 184 = .ok (.newarray .long, 2) := by decide +kernel
theorem dX12_init_186 : decode cX12_init 186 = .ok (.putfield 74, 3) := by decide +kernel
theorem dX12_init_189 : decode cX12_init 189 = .ok (.aload_n 0, 1) := by decide +kernel
theorem dX12_init_190 : decode cX12_init 190 = .ok (.sipush 850, 3) := by decide +kernel
theorem dX12_init_193 : decode cX12_init 193 = .ok (.newarray .boolean, 2) := by decide +kernel
theorem dX12_init_195 : decode cX12_init 195 = .ok (.putfield 78, 3) := by decide +kernel
theorem dX12_init_198 : decode cX12_init 198 = .ok (.aload_n 0, 1) := by decide +kernel
theorem dX12_init_199 : decode cX12_init 199 = .ok (.sipush 850, 3) := by decide +kernel
theorem dX12_init_202 : decode cX12_init 202 = .ok (.newarray .boolean, 2) := by decide +kernel
theorem dX12_init_204 : decode cX12_init 204 = .ok (.putfield 82, 3) := by decide +kernel
theorem dX12_init_207 : decode cX12_init 207 = .ok (.aload_n 0, 1) := by decide +kernel
theorem dX12_init_208 : decode cX12_init 208 = .ok (.sipush 301, 3) := by decide +kernel
theorem dX12_init_211 : decode cX12_init 211 = .ok (.newarray .int, 2) := by decide +kernel
theorem dX12_init_213 : decode cX12_init 213 = .ok (.putfield 85, 3) := by decide +kernel
theorem dX12_init_216 : decode cX12_init 216 = .ok (.aload_n 0, 1) := by decide +kernel
theorem dX12_init_217 : decode cX12_init 217 = .ok (.sipush 18060, 3) := by decide +kernel
theorem dX12_init_220 : decode cX12_init 220 = .ok (.newarray .int, 2) := by decide +kernel
theorem dX12_init_222 : decode cX12_init 222 = .ok (.putfield 88, 3) := by decide +kernel
theorem dX12_init_225 : decode cX12_init 225 = .ok (.return_, 1) := by decide +kernel
