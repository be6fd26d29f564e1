set_option maxRecDepth 20000 in
theorem ggX12_onward_X12_next : GoodIn wsX12_onward wsX12_next := goodIn_r _ [6, 7, 8, 9, 10, 11, 12, 13, 14, 15, 16, 17, 18, 19, 20, 21, 22, 23, 24, 25, 26, 27, 28, 29, 30, 31, 32, 33, 34, 35, 36, 37, 38, 39, 40, 41, 42, 43, 44] rfl (by decide +kernel)
set_option maxRecDepth 20000 in
theorem gX12_onward_X12_next : GoodIn wsX12_onward (wsV RX12 226 RX12 yX12_next wsX12_next) := goodIn_app (goodIn_of _ (by decide +kernel)) ggX12_onward_X12_next
theorem dX12_onward_0 : decode cX12_onward 0 = .ok (.aload_n 0, 1) := by decide +kernel
theorem dX12_onward_1 : decode cX12_onward 1 = .ok (.iload_n 1, 1) := by decide +kernel
theorem dX12_onward_2 : decode cX12_onward 2 = .ok (.iload_n 2, 1) := by decide +kernel
theorem dX12_onward_3 : decode cX12_onward 3 = .ok (.invokevirtual 226, 3) := by decide +kernel
theorem dX12_onward_6 : decode cX12_onward 6 = .ok (.istore 4, 2) := by decide +kernel
theorem dX12_onward_8 : decode cX12_onward 8 = .ok (.iload 4, 2) := by decide +kernel
theorem dX12_onward_10 : decode cX12_onward 10 = .ok (.bipush (-9), 2) := by decide +kernel
theorem dX12_onward_12 : decode cX12_onward 12 = .ok (.if_icmp .ne 7, 3) := by decide +kernel
theorem dX12_onward_15 : decode cX12_onward 15 = .ok (.lconst 0, 1) := by decide +kernel
theorem dX12_onward_16 : decode cX12_onward 16 = .ok (.goto 15, 3) := by decide +kernel
theorem dX12_onward_19 : decode cX12_onward 19 = .ok (.aload_n 0, 1) := by decide +kernel
theorem dX12_onward_20 : decode cX12_onward 20 = .ok (.getfield 74, 3) := by decide +kernel
theorem dX12_onward_23 : decode cX12_onward 23 = .ok (.bipush 31, 2) := by decide +kernel
theorem dX12_onward_25 : decode cX12_onward 25 = .ok (.iload 4, 2) := by decide +kernel
theorem dX12_onward_27 : decode cX12_onward 27 = .ok (.imul, 1) := by decide +kernel
theorem dX12_onward_28 : decode cX12_onward 28 = .ok (.iload_n 3, 1) := by decide +kernel
theorem dX12_onward_29 : decode cX12_onward 29 = .ok (.iadd, 1) := by decide +kernel
theorem dX12_onward_30 : decode cX12_onward 30 = .ok (.laload, 1) := by decide +kernel
theorem dX12_onward_31 : decode cX12_onward 31 = .ok (.lreturn, 1) := by decide +kernel
set_option maxRecDepth 20000 in
theorem ggX12_order_X12_isSlot : GoodIn wsX12_order wsX12_isSlot := goodIn_r _ [5, 6, 7, 8, 4, 9] (by decide +kernel) (by decide +kernel)
set_option maxRecDepth 20000 in
theorem gX12_order_X12_isSlot : GoodIn wsX12_order (va_wsS RX12 102 yX12_isSlot wsX12_isSlot) := goodIn_app (goodIn_of _ (by decide +kernel)) ggX12_order_X12_isSlot
set_option maxRecDepth 20000 in
theorem ggX12_order_X12_isMachine : GoodIn wsX12_order wsX12_isMachine := goodIn_r _ [13, 14, 15, 39, 40, 41, 42, 43, 44, 45, 46, 47, 48, 49, 50, 51, 52, 53, 54, 55, 56, 57, 58, 59, 60, 61, 62, 63, 64, 65, 66, 67, 68, 69, 70, 71, 72] (by decide +kernel) (by decide +kernel)
set_option maxRecDepth 20000 in
theorem gX12_order_X12_isMachine : GoodIn wsX12_order (wsV RX12 229 RX12 yX12_isMachine wsX12_isMachine) := goodIn_app (goodIn_of _ (by decide +kernel)) ggX12_order_X12_isMachine
set_option maxRecDepth 20000 in
theorem ggX12_order_X12_copy : GoodIn wsX12_order wsX12_copy := goodIn_r _ [19, 1, 20, 39, 40, 41, 42, 43, 44, 45, 46, 47, 48, 49, 50, 51, 52, 53, 54, 55, 56, 57, 58, 59, 60, 61, 62, 63, 64, 65, 66, 67, 68, 69, 70, 71, 72] (by decide +kernel) (by decide +kernel)
set_option maxRecDepth 20000 in
theorem gX12_order_X12_copy : GoodIn wsX12_order (wsV RX12 106 RX12 yX12_copy wsX12_copy) := goodIn_app (goodIn_of _ (by decide +kernel)) ggX12_order_X12_copy
set_option maxRecDepth 20000 in
theorem ggX12_order_X12_reduceAt : GoodIn wsX12_order wsX12_reduceAt := goodIn_r _ [24, 1, 20, 25, 26, 27, 28, 29, 30, 39, 40, 41, 42, 43, 44, 45, 46, 47, 48, 49, 50, 51, 52, 53, 54, 55, 56, 57, 58, 59, 60, 61, 62, 63, 64, 65, 66, 67, 68, 69, 70, 71, 72] rfl (by decide +kernel)
set_option maxRecDepth 20000 in
theorem gX12_order_X12_reduceAt : GoodIn wsX12_order (wsV RX12 167 RX12 yX12_reduceAt wsX12_reduceAt) := goodIn_app (goodIn_of _ (by decide +kernel)) ggX12_order_X12_reduceAt
set_option maxRecDepth 20000 in
theorem ggX12_order_X12_times : GoodIn wsX12_order wsX12_times := goodIn_r _ [34, 1, 35, 36, 37, 4, 38, 20, 21, 22, 23, 24, 25, 26, 27, 28, 29, 30, 39, 40, 41, 42, 43, 44, 45, 46, 47, 48, 49, 50, 51, 52, 53, 54, 55, 56, 57, 58, 59, 60, 61, 62, 63, 64, 65, 66, 67, 68, 69, 70, 71, 72] rfl (by decide +kernel)
set_option maxRecDepth 20000 in
theorem gX12_order_X12_times : GoodIn wsX12_order (wsV RX12 260 RX12 yX12_times wsX12_times) := goodIn_app (goodIn_of _ (by decide +kernel)) ggX12_order_X12_times
theorem dX12_order_0 : decode cX12_order 0 = .ok (.iload_n 1, 1) := by decide +kernel
theorem dX12_order_1 : decode cX12_order 1 = .ok (.invokestatic 102, 3) := by decide +kernel
theorem dX12_order_4 : decode cX12_order 4 = .ok (.ifCond .ne 5, 3) := by decide +kernel
theorem dX12_order_7 : decode cX12_order 7 = .ok (.iconst (-1), 1) := by decide +kernel
theorem dX12_order_8 : decode cX12_order 8 = .ok (.ireturn, 1) := by decide +kernel
theorem dX12_order_9 : decode cX12_order 9 = .ok (.aload_n 0, 1) := by decide +kernel
theorem dX12_order_10 : decode cX12_order 10 = .ok (.invokevirtual 229, 3) := by decide +kernel
theorem dX12_order_13 : decode cX12_order 13 = .ok (.ifCond .ne 6, 3) := by decide +kernel
theorem dX12_order_16 : decode cX12_order 16 = .ok (.bipush (-3), 2) := by decide +kernel
theorem dX12_order_18 : decode cX12_order 18 = .ok (.ireturn, 1) := by decide +kernel
theorem dX12_order_19 : decode cX12_order 19 = .ok (.aload_n 0, 1) := by decide +kernel
theorem dX12_order_20 : decode cX12_order 20 = .ok (.iload_n 1, 1) := by decide +kernel
theorem dX12_order_21 : decode cX12_order 21 = .ok (.bipush 10, 2) := by decide +kernel
theorem dX12_order_23 : decode cX12_order 23 = .ok (.invokevirtual 106, 3) := by decide +kernel
theorem dX12_order_26 : decode cX12_order 26 = .ok (.aload_n 0, 1) := by decide +kernel
theorem dX12_order_27 : decode cX12_order 27 = .ok (.bipush 10, 2) := by decide +kernel
theorem dX12_order_29 : decode cX12_order 29 = .ok (.invokevirtual 167, 3) := by decide +kernel
theorem dX12_order_32 : decode cX12_order 32 = .ok (.aload_n 0, 1) := by decide +kernel
theorem dX12_order_33 : decode cX12_order 33 = .ok (.getfield 13, 3) := by decide +kernel
theorem dX12_order_36 : decode cX12_order 36 = .ok (.bipush 9, 2) := by decide +kernel
theorem dX12_order_38 : decode cX12_order 38 = .ok (.iconst 0, 1) := by decide +kernel
theorem dX12_order_39 : decode cX12_order 39 = .ok (.iastore, 1) := by decide +kernel
theorem dX12_order_40 : decode cX12_order 40 = .ok (.iconst 1, 1) := by decide +kernel
theorem dX12_order_41 : decode cX12_order 41 = .ok (.istore_n 2, 1) := by decide +kernel
theorem dX12_order_42 : decode cX12_order 42 = .ok (.iload_n 2, 1) := by decide +kernel
theorem dX12_order_43 : decode cX12_order 43 = .ok (.bipush 100, 2) := by decide +kernel
theorem dX12_order_45 : decode cX12_order 45 = .ok (.if_icmp .gt 35, 3) := by decide +kernel
theorem dX12_order_48 : decode cX12_order 48 = .ok (.aload_n 0, 1) := by decide +kernel
theorem dX12_order_49 : decode cX12_order 49 = .ok (.bipush 9, 2) := by decide +kernel
theorem dX12_order_51 : decode cX12_order 51 = .ok (.bipush 10, 2) := by decide +kernel
theorem dX12_order_53 : decode cX12_order 53 = .ok (.invokevirtual 260, 3) := by decide +kernel
theorem dX12_order_56 : decode cX12_order 56 = .ok (.ifCond .ne 6, 3) := by decide +kernel
theorem dX12_order_59 : decode cX12_order 59 = .ok (.bipush (-4), 2) := by decide +kernel
theorem dX12_order_61 : decode cX12_order 61 = .ok (.ireturn, 1) := by decide +kernel
theorem dX12_order_62 : decode cX12_order 62 = .ok (.aload_n 0, 1) := by decide +kernel
theorem dX12_order_63 : decode cX12_order 63 = .ok (.getfield 13, 3) := by decide +kernel
theorem dX12_order_66 : decode cX12_order 66 = .ok (.bipush 9, 2) := by decide +kernel
theorem dX12_order_68 : decode cX12_order 68 = .ok (.iaload, 1) := by decide +kernel
theorem dX12_order_69 : decode cX12_order 69 = .ok (.ifCond .ne 5, 3) := by decide +kernel
theorem dX12_order_72 : decode cX12_order 72 = .ok (.iload_n 2, 1) := by decide +kernel
theorem dX12_order_73 : decode cX12_order 73 = .ok (.ireturn, 1) := by decide +kernel
theorem dX12_order_74 : decode cX12_order 74 = .ok (.iinc 2 1, 3) := by decide +kernel
theorem dX12_order_77 : decode cX12_order 77 = .ok (.goto (-35), 3) := by decide +kernel
theorem dX12_order_80 : decode cX12_order 80 = .ok (.bipush (-9), 2) := by decide +kernel
theorem dX12_order_82 : decode cX12_order 82 = .ok (.ireturn, 1) := by decide +kernel
set_option maxRecDepth 20000 in
theorem ggX12_pick_X12_onward : GoodIn wsX12_pick wsX12_onward := goodIn_r _ [8, 1, 9, 10, 11, 7, 12, 13, 14, 15, 16, 17, 18, 19, 20, 21, 22, 23, 24, 25, 26, 27, 28, 29, 30, 31, 32, 33, 34, 35, 36, 37, 38, 39, 40, 41, 42, 43, 44, 45, 46, 47, 48, 49, 50] rfl (by decide +kernel)
set_option maxRecDepth 20000 in
theorem gX12_pick_X12_onward : GoodIn wsX12_pick (wsV RX12 245 RX12 yX12_onward wsX12_onward) := goodIn_app (goodIn_of _ (by decide +kernel)) ggX12_pick_X12_onward
set_option maxRecDepth 20000 in
theorem ggX12_pick_X12_next : GoodIn wsX12_pick wsX12_next := goodIn_r _ [12, 13, 14, 15, 16, 17, 18, 19, 20, 21, 22, 23, 24, 25, 26, 27, 28, 29, 30, 31, 32, 33, 34, 35, 36, 37, 38, 39, 40, 41, 42, 43, 44, 45, 46, 47, 48, 49, 50] rfl (by decide +kernel)
set_option maxRecDepth 20000 in
theorem gX12_pick_X12_next : GoodIn wsX12_pick (wsV RX12 226 RX12 yX12_next wsX12_next) := goodIn_app (goodIn_of _ (by decide +kernel)) ggX12_pick_X12_next
theorem dX12_pick_0 : decode cX12_pick 0 = .ok (.lload_n 1, 1) := by decide +kernel
theorem dX12_pick_1 : decode cX12_pick 1 = .ok (.lstore 4, 2) := by decide +kernel
theorem dX12_pick_3 : decode cX12_pick 3 = .ok (.iconst 0, 1) := by decide +kernel
theorem dX12_pick_4 : decode cX12_pick 4 = .ok (.istore 6, 2) := by decide +kernel
theorem dX12_pick_6 : decode cX12_pick 6 = .ok (.iload 6, 2) := by decide +kernel
theorem dX12_pick_8 : decode cX12_pick 8 = .ok (.bipush 30, 2) := by decide +kernel
theorem dX12_pick_10 : decode cX12_pick 10 = .ok (.if_icmp .gt 34, 3) := by decide +kernel
theorem dX12_pick_13 : decode cX12_pick 13 = .ok (.lload 4, 2) := by decide +kernel
theorem dX12_pick_15 : decode cX12_pick 15 = .ok (.aload_n 0, 1) := by decide +kernel
theorem dX12_pick_16 : decode cX12_pick 16 = .ok (.getfield 74, 3) := by decide +kernel
theorem dX12_pick_19 : decode cX12_pick 19 = .ok (.iload 6, 2) := by decide +kernel
theorem dX12_pick_21 : decode cX12_pick 21 = .ok (.laload, 1) := by decide +kernel
theorem dX12_pick_22 : decode cX12_pick 22 = .ok (.lcmp, 1) := by decide +kernel
theorem dX12_pick_23 : decode cX12_pick 23 = .ok (.ifCond .lt 21, 3) := by decide +kernel
theorem dX12_pick_26 : decode cX12_pick 26 = .ok (.lload 4, 2) := by decide +kernel
theorem dX12_pick_28 : decode cX12_pick 28 = .ok (.aload_n 0, 1) := by decide +kernel
theorem dX12_pick_29 : decode cX12_pick 29 = .ok (.getfield 74, 3) := by decide +kernel
theorem dX12_pick_32 : decode cX12_pick 32 = .ok (.iload 6, 2) := by decide +kernel
theorem dX12_pick_34 : decode cX12_pick 34 = .ok (.laload, 1) := by decide +kernel
theorem dX12_pick_35 : decode cX12_pick 35 = .ok (.lsub, 1) := by decide +kernel
theorem dX12_pick_36 : decode cX12_pick 36 = .ok (.lstore 4, 2) := by decide +kernel
theorem dX12_pick_38 : decode cX12_pick 38 = .ok (.iinc 6 1, 3) := by decide +kernel
theorem dX12_pick_41 : decode cX12_pick 41 = .ok (.goto (-35), 3) := by decide +kernel
theorem dX12_pick_44 : decode cX12_pick 44 = .ok (.iload 6, 2) := by decide +kernel
theorem dX12_pick_46 : decode cX12_pick 46 = .ok (.bipush 30, 2) := by decide +kernel
theorem dX12_pick_48 : decode cX12_pick 48 = .ok (.if_icmp .le 5, 3) := by decide +kernel
theorem dX12_pick_51 : decode cX12_pick 51 = .ok (.iconst 0, 1) := by decide +kernel
theorem dX12_pick_52 : decode cX12_pick 52 = .ok (.ireturn, 1) := by decide +kernel
theorem dX12_pick_53 : decode cX12_pick 53 = .ok (.iconst 0, 1) := by decide +kernel
theorem dX12_pick_54 : decode cX12_pick 54 = .ok (.istore 7, 2) := by decide +kernel
theorem dX12_pick_56 : decode cX12_pick 56 = .ok (.aload_n 0, 1) := by decide +kernel
theorem dX12_pick_57 : decode cX12_pick 57 = .ok (.getfield 13, 3) := by decide +kernel
theorem dX12_pick_60 : decode cX12_pick 60 = .ok (.iload_n 3, 1) := by decide +kernel
theorem dX12_pick_61 : decode cX12_pick 61 = .ok (.iload 6, 2) := by decide +kernel
theorem dX12_pick_63 : decode cX12_pick 63 = .ok (.iastore, 1) := by decide +kernel
theorem dX12_pick_64 : decode cX12_pick 64 = .ok (.iconst 0, 1) := by decide +kernel
theorem dX12_pick_65 : decode cX12_pick 65 = .ok (.istore 8, 2) := by decide +kernel
theorem dX12_pick_67 : decode cX12_pick 67 = .ok (.iload 8, 2) := by decide +kernel
theorem dX12_pick_69 : decode cX12_pick 69 = .ok (.iload 6, 2) := by decide +kernel
theorem dX12_pick_71 : decode cX12_pick 71 = .ok (.if_icmp .ge 92, 3) := by decide +kernel
theorem dX12_pick_74 : decode cX12_pick 74 = .ok (.iconst 0, 1) := by decide +kernel
theorem dX12_pick_75 : decode cX12_pick 75 = .ok (.istore 9, 2) := by decide +kernel
theorem dX12_pick_77 : decode cX12_pick 77 = .ok (.aload_n 0, 1) := by decide +kernel
theorem dX12_pick_78 : decode cX12_pick 78 = .ok (.iload 7, 2) := by decide +kernel
theorem dX12_pick_80 : decode cX12_pick 80 = .ok (.iload 9, 2) := by decide +kernel
theorem dX12_pick_82 : decode cX12_pick 82 = .ok (.iload 6, 2) := by decide +kernel
theorem dX12_pick_84 : decode cX12_pick 84 = .ok (.iload 8, 2) := by decide +kernel
theorem dX12_pick_86 : decode cX12_pick 86 = .ok (.isub, 1) := by decide +kernel
theorem dX12_pick_87 : decode cX12_pick 87 = .ok (.iconst 1, 1) := by decide +kernel
theorem dX12_pick_88 : decode cX12_pick 88 = .ok (.isub, 1) := by decide +kernel
theorem dX12_pick_89 : decode cX12_pick 89 = .ok (.invokevirtual 245, 3) := by decide +kernel
theorem dX12_pick_92 : decode cX12_pick 92 = .ok (.lstore 10, 2) := by decide +kernel
theorem dX12_pick_94 : decode cX12_pick 94 = .ok (.lload 4, 2) := by decide +kernel
theorem dX12_pick_96 : decode cX12_pick 96 = .ok (.lload 10, 2) := by decide +kernel
theorem dX12_pick_98 : decode cX12_pick 98 = .ok (.lcmp, 1) := by decide +kernel
theorem dX12_pick_99 : decode cX12_pick 99 = .ok (.ifCond .lt 33, 3) := by decide +kernel
theorem dX12_pick_102 : decode cX12_pick 102 = .ok (.lload 4, 2) := by decide +kernel
theorem dX12_pick_104 : decode cX12_pick 104 = .ok (.lload 10, 2) := by decide +kernel
theorem dX12_pick_106 : decode cX12_pick 106 = .ok (.lsub, 1) := by decide +kernel
theorem dX12_pick_107 : decode cX12_pick 107 = .ok (.lstore 4, 2) := by decide +kernel
theorem dX12_pick_109 : decode cX12_pick 109 = .ok (.iinc 9 1, 3) := by decide +kernel
theorem dX12_pick_112 : decode cX12_pick 112 = .ok (.aload_n 0, 1) := by decide +kernel
theorem dX12_pick_113 : decode cX12_pick 113 = .ok (.iload 7, 2) := by decide +kernel
theorem dX12_pick_115 : decode cX12_pick 115 = .ok (.iload 9, 2) := by decide +kernel
theorem dX12_pick_117 : decode cX12_pick 117 = .ok (.iload 6, 2) := by decide +kernel
theorem dX12_pick_119 : decode cX12_pick 119 = .ok (.iload 8, 2) := by decide +kernel
theorem dX12_pick_121 : decode cX12_pick 121 = .ok (.isub, 1) := by decide +kernel
theorem dX12_pick_122 : decode cX12_pick 122 = .ok (.iconst 1, 1) := by decide +kernel
theorem dX12_pick_123 : decode cX12_pick 123 = .ok (.isub, 1) := by decide +kernel
theorem dX12_pick_124 : decode cX12_pick 124 = .ok (.invokevirtual 245, 3) := by decide +kernel
theorem dX12_pick_127 : decode cX12_pick 127 = .ok (.lstore 10, 2) := by decide +kernel
theorem dX12_pick_129 : decode cX12_pick 129 = .ok (.goto (-35), 3) := by decide +kernel
theorem dX12_pick_132 : decode cX12_pick 132 = .ok (.aload_n 0, 1) := by decide +kernel
theorem dX12_pick_133 : decode cX12_pick 133 = .ok (.getfield 17, 3) := by decide +kernel
theorem dX12_pick_136 : decode cX12_pick 136 = .ok (.sipush 128, 3) := by decide +kernel
theorem dX12_pick_139 : decode cX12_pick 139 = .ok (.iload_n 3, 1) := by decide +kernel
theorem dX12_pick_140 : decode cX12_pick 140 = .ok (.imul, 1) := by decide +kernel
theorem dX12_pick_141 : decode cX12_pick 141 = .ok (.iload 8, 2) := by decide +kernel
theorem dX12_pick_143 : decode cX12_pick 143 = .ok (.iadd, 1) := by decide +kernel
theorem dX12_pick_144 : decode cX12_pick 144 = .ok (.iload 9, 2) := by decide +kernel
theorem dX12_pick_146 : decode cX12_pick 146 = .ok (.iastore, 1) := by decide +kernel
theorem dX12_pick_147 : decode cX12_pick 147 = .ok (.aload_n 0, 1) := by decide +kernel
theorem dX12_pick_148 : decode cX12_pick 148 = .ok (.iload 7, 2) := by decide +kernel
theorem dX12_pick_150 : decode cX12_pick 150 = .ok (.iload 9, 2) := by decide +kernel
theorem dX12_pick_152 : decode cX12_pick 152 = .ok (.invokevirtual 226, 3) := by decide +kernel
theorem dX12_pick_155 : decode cX12_pick 155 = .ok (.istore 7, 2) := by decide +kernel
theorem dX12_pick_157 : decode cX12_pick 157 = .ok (.iinc 8 1, 3) := by decide +kernel
theorem dX12_pick_160 : decode cX12_pick 160 = .ok (.goto (-93), 3) := by decide +kernel
theorem dX12_pick_163 : decode cX12_pick 163 = .ok (.iconst 1, 1) := by decide +kernel
theorem dX12_pick_164 : decode cX12_pick 164 = .ok (.ireturn, 1) := by decide +kernel
set_option maxRecDepth 20000 in
theorem ggX12_plant_X12_newNode : GoodIn wsX12_plant wsX12_newNode := goodIn_r _ [18, 1, 5, 6, 19, 20, 21, 22, 23, 24, 25, 26, 27, 28, 29, 30, 31, 32, 33, 34, 35, 36, 37, 38, 39, 40, 41, 42, 43, 44, 45, 46, 47, 48, 49, 50, 51, 52] (by decide +kernel) (by decide +kernel)
set_option maxRecDepth 20000 in
theorem gX12_plant_X12_newNode : GoodIn wsX12_plant (wsV RX12 160 RX12 yX12_newNode wsX12_newNode) := goodIn_app (goodIn_of _ (by decide +kernel)) ggX12_plant_X12_newNode
theorem dX12_plant_0 : decode cX12_plant 0 = .ok (.aload_n 0, 1) := by decide +kernel
theorem dX12_plant_1 : decode cX12_plant 1 = .ok (.iconst 0, 1) := by decide +kernel
theorem dX12_plant_2 : decode cX12_plant 2 = .ok (.putfield 157, 3) := by decide +kernel
theorem dX12_plant_5 : decode cX12_plant 5 = .ok (.aload_n 0, 1) := by decide +kernel
theorem dX12_plant_6 : decode cX12_plant 6 = .ok (.invokevirtual 160, 3) := by decide +kernel
theorem dX12_plant_9 : decode cX12_plant 9 = .ok (.istore_n 1, 1) := by decide +kernel
theorem dX12_plant_10 : decode cX12_plant 10 = .ok (.iconst 0, 1) := by decide +kernel
theorem dX12_plant_11 : decode cX12_plant 11 = .ok (.istore_n 2, 1) := by decide +kernel
theorem dX12_plant_12 : decode cX12_plant 12 = .ok (.iload_n 2, 1) := by decide +kernel
theorem dX12_plant_13 : decode cX12_plant 13 = .ok (.aload_n 0, 1) := by decide +kernel
theorem dX12_plant_14 : decode cX12_plant 14 = .ok (.getfield 139, 3) := by decide +kernel
theorem dX12_plant_17 : decode cX12_plant 17 = .ok (.if_icmp .ge 95, 3) := by decide +kernel
theorem dX12_plant_20 : decode cX12_plant 20 = .ok (.iconst 0, 1) := by decide +kernel
theorem dX12_plant_21 : decode cX12_plant 21 = .ok (.istore_n 3, 1) := by decide +kernel
theorem dX12_plant_22 : decode cX12_plant 22 = .ok (.iconst 0, 1) := by decide +kernel
theorem dX12_plant_23 : decode cX12_plant 23 = .ok (.istore 4, 2) := by decide +kernel
theorem dX12_plant_25 : decode cX12_plant 25 = .ok (.iload 4, 2) := by decide +kernel
theorem dX12_plant_27 : decode cX12_plant 27 = .ok (.aload_n 0, 1) := by decide +kernel
theorem dX12_plant_28 : decode cX12_plant 28 = .ok (.getfield 38, 3) := by decide +kernel
theorem dX12_plant_31 : decode cX12_plant 31 = .ok (.iload_n 2, 1) := by decide +kernel
theorem dX12_plant_32 : decode cX12_plant 32 = .ok (.iaload, 1) := by decide +kernel
theorem dX12_plant_33 : decode cX12_plant 33 = .ok (.if_icmp .ge 66, 3) := by decide +kernel
theorem dX12_plant_36 : decode cX12_plant 36 = .ok (.aload_n 0, 1) := by decide +kernel
theorem dX12_plant_37 : decode cX12_plant 37 = .ok (.getfield 41, 3) := by decide +kernel
theorem dX12_plant_40 : decode cX12_plant 40 = .ok (.bipush 24, 2) := by decide +kernel
theorem dX12_plant_42 : decode cX12_plant 42 = .ok (.iload_n 2, 1) := by decide +kernel
theorem dX12_plant_43 : decode cX12_plant 43 = .ok (.imul, 1) := by decide +kernel
theorem dX12_plant_44 : decode cX12_plant 44 = .ok (.iload 4, 2) := by decide +kernel
theorem dX12_plant_46 : decode cX12_plant 46 = .ok (.iadd, 1) := by decide +kernel
theorem dX12_plant_47 : decode cX12_plant 47 = .ok (.iaload, 1) := by decide +kernel
theorem dX12_plant_48 : decode cX12_plant 48 = .ok (.istore 5, 2) := by decide +kernel
theorem dX12_plant_50 : decode cX12_plant 50 = .ok (.aload_n 0, 1) := by decide +kernel
theorem dX12_plant_51 : decode cX12_plant 51 = .ok (.getfield 50, 3) := by decide +kernel
theorem dX12_plant_54 : decode cX12_plant 54 = .ok (.iconst 4, 1) := by decide +kernel
theorem dX12_plant_55 : decode cX12_plant 55 = .ok (.iload_n 3, 1) := by decide +kernel
theorem dX12_plant_56 : decode cX12_plant 56 = .ok (.imul, 1) := by decide +kernel
theorem dX12_plant_57 : decode cX12_plant 57 = .ok (.iload 5, 2) := by decide +kernel
theorem dX12_plant_59 : decode cX12_plant 59 = .ok (.iadd, 1) := by decide +kernel
theorem dX12_plant_60 : decode cX12_plant 60 = .ok (.iaload, 1) := by decide +kernel
theorem dX12_plant_61 : decode cX12_plant 61 = .ok (.bipush (-9), 2) := by decide +kernel
theorem dX12_plant_63 : decode cX12_plant 63 = .ok (.if_icmp .ne 18, 3) := by decide +kernel
theorem dX12_plant_66 : decode cX12_plant 66 = .ok (.aload_n 0, 1) := by decide +kernel
theorem dX12_plant_67 : decode cX12_plant 67 = .ok (.getfield 50, 3) := by decide +kernel
theorem dX12_plant_70 : decode cX12_plant 70 = .ok (.iconst 4, 1) := by decide +kernel
theorem dX12_plant_71 : decode cX12_plant 71 = .ok (.iload_n 3, 1) := by decide +kernel
theorem dX12_plant_72 : decode cX12_plant 72 = .ok (.imul, 1) := by decide +kernel
theorem dX12_plant_73 : decode cX12_plant 73 = .ok (.iload 5, 2) := by decide +kernel
theorem dX12_plant_75 : decode cX12_plant 75 = .ok (.iadd, 1) := by decide +kernel
theorem dX12_plant_76 : decode cX12_plant 76 = .ok (.aload_n 0, 1) := by decide +kernel
theorem dX12_plant_77 : decode cX12_plant 77 = .ok (.invokevirtual 160, 3) := by decide +kernel
theorem dX12_plant_80 : decode cX12_plant 80 = .ok (.iastore, 1) := by decide +kernel
theorem dX12_plant_81 : decode cX12_plant 81 = .ok (.aload_n 0, 1) := by decide +kernel
theorem dX12_plant_82 : decode cX12_plant 82 = .ok (.getfield 50, 3) := by decide +kernel
theorem dX12_plant_85 : decode cX12_plant 85 = .ok (.iconst 4, 1) := by decide +kernel
theorem dX12_plant_86 : decode cX12_plant 86 = .ok (.iload_n 3, 1) := by decide +kernel
theorem dX12_plant_87 : decode cX12_plant 87 = .ok (.imul, 1) := by decide +kernel
theorem dX12_plant_88 : decode cX12_plant 88 = .ok (.iload 5, 2) := by decide +kernel
theorem dX12_plant_90 : decode cX12_plant 90 = .ok (.iadd, 1) := by decide +kernel
theorem dX12_plant_91 : decode cX12_plant 91 = .ok (.iaload, 1) := by decide +kernel
theorem dX12_plant_92 : decode cX12_plant 92 = .ok (.istore_n 3, 1) := by decide +kernel
theorem dX12_plant_93 : decode cX12_plant 93 = .ok (.iinc 4 1, 3) := by decide +kernel
theorem dX12_plant_96 : decode cX12_plant 96 = .ok (.goto (-71), 3) := by decide +kernel
theorem dX12_plant_99 : decode cX12_plant 99 = .ok (.aload_n 0, 1) := by decide +kernel
theorem dX12_plant_100 : decode cX12_plant 100 = .ok (.getfield 59, 3) := by decide +kernel
theorem dX12_plant_103 : decode cX12_plant 103 = .ok (.iload_n 3, 1) := by decide +kernel
theorem dX12_plant_104 : decode cX12_plant 104 = .ok (.iload_n 2, 1) := by decide +kernel
theorem dX12_plant_105 : decode cX12_plant 105 = .ok (.iastore, 1) := by decide +kernel
theorem dX12_plant_106 : decode cX12_plant 106 = .ok (.iinc 2 1, 3) := by decide +kernel
theorem dX12_plant_109 : decode cX12_plant 109 = .ok (.goto (-97), 3) := by decide +kernel
theorem dX12_plant_112 : decode cX12_plant 112 = .ok (.aload_n 0, 1) := by decide +kernel
theorem dX12_plant_113 : decode cX12_plant 113 = .ok (.getfield 62, 3) := by decide +kernel
theorem dX12_plant_116 : decode cX12_plant 116 = .ok (.iconst 0, 1) := by decide +kernel
theorem dX12_plant_117 : decode cX12_plant 117 = .ok (.iconst 0, 1) := by decide +kernel
theorem dX12_plant_118 : decode cX12_plant 118 = .ok (.iastore, 1) := by decide +kernel
theorem dX12_plant_119 : decode cX12_plant 119 = .ok (.aload_n 0, 1) := by decide +kernel
theorem dX12_plant_120 : decode cX12_plant 120 = .ok (.getfield 56, 3) := by decide +kernel
theorem dX12_plant_123 : decode cX12_plant 123 = .ok (.iconst 0, 1) := by decide +kernel
theorem dX12_plant_124 : decode cX12_plant 124 = .ok (.iconst 0, 1) := by decide +kernel
theorem dX12_plant_125 : decode cX12_plant 125 = .ok (.iastore, 1) := by decide +kernel
theorem dX12_plant_126 : decode cX12_plant 126 = .ok (.iconst 1, 1) := by decide +kernel
theorem dX12_plant_127 : decode cX12_plant 127 = .ok (.istore_n 2, 1) := by decide +kernel
theorem dX12_plant_128 : decode cX12_plant 128 = .ok (.iconst 0, 1) := by decide +kernel
theorem dX12_plant_129 : decode cX12_plant 129 = .ok (.istore_n 3, 1) := by decide +kernel
theorem dX12_plant_130 : decode cX12_plant 130 = .ok (.iload_n 3, 1) := by decide +kernel
theorem dX12_plant_131 : decode cX12_plant 131 = .ok (.iload_n 2, 1) := by decide +kernel
theorem dX12_plant_132 : decode cX12_plant 132 = .ok (.if_icmp .ge 180, 3) := by decide +kernel
theorem dX12_plant_135 : decode cX12_plant 135 = .ok (.aload_n 0, 1) := by decide +kernel
theorem dX12_plant_136 : decode cX12_plant 136 = .ok (.getfield 62, 3) := by decide +kernel
theorem dX12_plant_139 : decode cX12_plant 139 = .ok (.iload_n 3, 1) := by decide +kernel
theorem dX12_plant_140 : decode cX12_plant 140 = .ok (.iaload, 1) := by decide +kernel
theorem dX12_plant_141 : decode cX12_plant 141 = .ok (.istore 4, 2) := by decide +kernel
theorem dX12_plant_143 : decode cX12_plant 143 = .ok (.iconst 0, 1) := by decide +kernel
theorem dX12_plant_144 : decode cX12_plant 144 = .ok (.istore 5, 2) := by decide +kernel
theorem dX12_plant_146 : decode cX12_plant 146 = .ok (.iload 5, 2) := by decide +kernel
theorem dX12_plant_148 : decode cX12_plant 148 = .ok (.aload_n 0, 1) := by decide +kernel
theorem dX12_plant_149 : decode cX12_plant 149 = .ok (.getfield 7, 3) := by decide +kernel
theorem dX12_plant_152 : decode cX12_plant 152 = .ok (.if_icmp .ge 154, 3) := by decide +kernel
theorem dX12_plant_155 : decode cX12_plant 155 = .ok (.aload_n 0, 1) := by decide +kernel
theorem dX12_plant_156 : decode cX12_plant 156 = .ok (.getfield 50, 3) := by decide +kernel
theorem dX12_plant_159 : decode cX12_plant 159 = .ok (.iconst 4, 1) := by decide +kernel
theorem dX12_plant_160 : decode cX12_plant 160 = .ok (.iload 4, 2) := by decide +kernel
theorem dX12_plant_162 : decode cX12_plant 162 = .ok (.imul, 1) := by decide +kernel
theorem dX12_plant_163 : decode cX12_plant 163 = .ok (.iload 5, 2) := by decide +kernel
theorem dX12_plant_165 : decode cX12_plant 165 = .ok (.iadd, 1) := by decide +kernel
theorem dX12_plant_166 : decode cX12_plant 166 = .ok (.iaload, 1) := by decide +kernel
theorem dX12_plant_167 : decode cX12_plant 167 = .ok (.istore 6, 2) := by decide +kernel
theorem dX12_plant_169 : decode cX12_plant 169 = .ok (.iload 4, 2) := by decide +kernel
theorem dX12_plant_171 : decode cX12_plant 171 = .ok (.ifCond .ne 7, 3) := by decide +kernel
theorem dX12_plant_174 : decode cX12_plant 174 = .ok (.iconst 0, 1) := by decide +kernel
theorem dX12_plant_175 : decode cX12_plant 175 = .ok (.goto 20, 3) := by decide +kernel
theorem dX12_plant_178 : decode cX12_plant 178 = .ok (.aload_n 0, 1) := by decide +kernel
theorem dX12_plant_179 : decode cX12_plant 179 = .ok (.getfield 53, 3) := by decide +kernel
theorem dX12_plant_182 : decode cX12_plant 182 = .ok (.iconst 4, 1) := by decide +kernel
theorem dX12_plant_183 : decode cX12_plant 183 = .ok (.aload_n 0, 1) := by decide +kernel
theorem dX12_plant_184 : decode cX12_plant 184 = .ok (.getfield 56, 3) := by decide +kernel
theorem dX12_plant_187 : decode cX12_plant 187 = .ok (.iload 4, 2) := by decide +kernel
theorem dX12_plant_189 : decode cX12_plant 189 = .ok (.iaload, 1) := by decide +kernel
theorem dX12_plant_190 : decode cX12_plant 190 = .ok (.imul, 1) := by decide +kernel
theorem dX12_plant_191 : decode cX12_plant 191 = .ok (.iload 5, 2) := by decide +kernel
theorem dX12_plant_193 : decode cX12_plant 193 = .ok (.iadd, 1) := by decide +kernel
theorem dX12_plant_194 : decode cX12_plant 194 = .ok (.iaload, 1) := by decide +kernel
theorem dX12_plant_195 : decode cX12_plant 195 = .ok (.istore 7, 2) := by decide +kernel
theorem dX12_plant_197 : decode cX12_plant 197 = .ok (.aload_n 0, 1) := by decide +kernel
theorem dX12_plant_198 : decode cX12_plant 198 = .ok (.getfield 53, 3) := by decide +kernel
theorem dX12_plant_201 : decode cX12_plant 201 = .ok (.iconst 4, 1) := by decide +kernel
theorem dX12_plant_202 : decode cX12_plant 202 = .ok (.iload 4, 2) := by decide +kernel
theorem dX12_plant_204 : decode cX12_plant 204 = .ok (.imul, 1) := by decide +kernel
theorem dX12_plant_205 : decode cX12_plant 205 = .ok (.iload 5, 2) := by decide +kernel
theorem dX12_plant_207 : decode cX12_plant 207 = .ok (.iadd, 1) := by decide +kernel
theorem dX12_plant_208 : decode cX12_plant 208 = .ok (.iload 6, 2) := by decide +kernel
theorem dX12_plant_210 : decode cX12_plant 210 = .ok (.bipush (-9), 2) := by decide +kernel
theorem dX12_plant_212 : decode cX12_plant 212 = .ok (.if_icmp .ne 8, 3) := by decide +kernel
theorem dX12_plant_215 : decode cX12_plant 215 = .ok (.iload 7, 2) := by decide +kernel
theorem dX12_plant_217 : decode cX12_plant 217 = .ok (.goto 5, 3) := by decide +kernel
theorem dX12_plant_220 : decode cX12_plant 220 = .ok (.iload 6, 2) := by decide +kernel
theorem dX12_plant_222 : decode cX12_plant 222 = .ok (.iastore, 1) := by decide +kernel
theorem dX12_plant_223 : decode cX12_plant 223 = .ok (.iload 6, 2) := by decide +kernel
theorem dX12_plant_225 : decode cX12_plant 225 = .ok (.bipush (-9), 2) := by decide +kernel
theorem dX12_plant_227 : decode cX12_plant 227 = .ok (.if_icmp .eq 73, 3) := by decide +kernel
theorem dX12_plant_230 : decode cX12_plant 230 = .ok (.aload_n 0, 1) := by decide +kernel
theorem dX12_plant_231 : decode cX12_plant 231 = .ok (.getfield 56, 3) := by decide +kernel
theorem dX12_plant_234 : decode cX12_plant 234 = .ok (.iload 6, 2) := by decide +kernel
theorem dX12_plant_236 : decode cX12_plant 236 = .ok (.iload 4, 2) := by decide +kernel
theorem dX12_plant_238 : decode cX12_plant 238 = .ok (.ifCond .ne 7, 3) := by decide +kernel
theorem dX12_plant_241 : decode cX12_plant 241 = .ok (.iconst 0, 1) := by decide +kernel
theorem dX12_plant_242 : decode cX12_plant 242 = .ok (.goto 5, 3) := by decide +kernel
theorem dX12_plant_245 : decode cX12_plant 245 = .ok (.iload 7, 2) := by decide +kernel
theorem dX12_plant_247 : decode cX12_plant 247 = .ok (.iastore, 1) := by decide +kernel
theorem dX12_plant_248 : decode cX12_plant 248 = .ok (.aload_n 0, 1) := by decide +kernel
theorem dX12_plant_249 : decode cX12_plant 249 = .ok (.getfield 59, 3) := by decide +kernel
theorem dX12_plant_252 : decode cX12_plant 252 = .ok (.iload 6, 2) := by decide +kernel
theorem dX12_plant_254 : decode cX12_plant 254 = .ok (.aload_n 0, 1) := by decide +kernel
theorem dX12_plant_255 : decode cX12_plant 255 = .ok (.getfield 59, 3) := by decide +kernel
theorem dX12_plant_258 : decode cX12_plant 258 = .ok (.iload 6, 2) := by decide +kernel
theorem dX12_plant_260 : decode cX12_plant 260 = .ok (.iaload, 1) := by decide +kernel
theorem dX12_plant_261 : decode cX12_plant 261 = .ok (.bipush (-9), 2) := by decide +kernel
theorem dX12_plant_263 : decode cX12_plant 263 = .ok (.if_icmp .ne 18, 3) := by decide +kernel
theorem dX12_plant_266 : decode cX12_plant 266 = .ok (.aload_n 0, 1) := by decide +kernel
theorem dX12_plant_267 : decode cX12_plant 267 = .ok (.getfield 59, 3) := by decide +kernel
theorem dX12_plant_270 : decode cX12_plant 270 = .ok (.aload_n 0, 1) := by decide +kernel
theorem dX12_plant_271 : decode cX12_plant 271 = .ok (.getfield 56, 3) := by decide +kernel
theorem dX12_plant_274 : decode cX12_plant 274 = .ok (.iload 6, 2) := by decide +kernel
theorem dX12_plant_276 : decode cX12_plant 276 = .ok (.iaload, 1) := by decide +kernel
theorem dX12_plant_277 : decode cX12_plant 277 = .ok (.iaload, 1) := by decide +kernel
theorem dX12_plant_278 : decode cX12_plant 278 = .ok (.goto 10, 3) := by decide +kernel
theorem dX12_plant_281 : decode cX12_plant 281 = .ok (.aload_n 0, 1) := by decide +kernel
theorem dX12_plant_282 : decode cX12_plant 282 = .ok (.getfield 59, 3) := by decide +kernel
theorem dX12_plant_285 : decode cX12_plant 285 = .ok (.iload 6, 2) := by decide +kernel
theorem dX12_plant_287 : decode cX12_plant 287 = .ok (.iaload, 1) := by decide +kernel
theorem dX12_plant_288 : decode cX12_plant 288 = .ok (.iastore, 1) := by decide +kernel
theorem dX12_plant_289 : decode cX12_plant 289 = .ok (.aload_n 0, 1) := by decide +kernel
theorem dX12_plant_290 : decode cX12_plant 290 = .ok (.getfield 62, 3) := by decide +kernel
theorem dX12_plant_293 : decode cX12_plant 293 = .ok (.iload_n 2, 1) := by decide +kernel
theorem dX12_plant_294 : decode cX12_plant 294 = .ok (.iload 6, 2) := by decide +kernel
theorem dX12_plant_296 : decode cX12_plant 296 = .ok (.iastore, 1) := by decide +kernel
theorem dX12_plant_297 : decode cX12_plant 297 = .ok (.iinc 2 1, 3) := by decide +kernel
theorem dX12_plant_300 : decode cX12_plant 300 = .ok (.iinc 5 1, 3) := by decide +kernel
theorem dX12_plant_303 : decode cX12_plant 303 = .ok (.goto (-157), 3) := by decide +kernel
theorem dX12_plant_306 : decode cX12_plant 306 = .ok (.iinc 3 1, 3) := by decide +kernel
theorem dX12_plant_309 : decode cX12_plant 309 = .ok (.goto (-179), 3) := by decide +kernel
theorem dX12_plant_312 : decode cX12_plant 312 = .ok (.aload_n 0, 1) := by decide +kernel
theorem dX12_plant_313 : decode cX12_plant 313 = .ok (.iconst 0, 1) := by decide +kernel
theorem dX12_plant_314 : decode cX12_plant 314 = .ok (.putfield 164, 3) := by decide +kernel
theorem dX12_plant_317 : decode cX12_plant 317 = .ok (.iconst 0, 1) := by decide +kernel
theorem dX12_plant_318 : decode cX12_plant 318 = .ok (.istore_n 3, 1) := by decide +kernel
theorem dX12_plant_319 : decode cX12_plant 319 = .ok (.iload_n 3, 1) := by decide +kernel
theorem dX12_plant_320 : decode cX12_plant 320 = .ok (.aload_n 0, 1) := by decide +kernel
theorem dX12_plant_321 : decode cX12_plant 321 = .ok (.getfield 157, 3) := by decide +kernel
theorem dX12_plant_324 : decode cX12_plant 324 = .ok (.if_icmp .ge 122, 3) := by decide +kernel
theorem dX12_plant_327 : decode cX12_plant 327 = .ok (.aload_n 0, 1) := by decide +kernel
theorem dX12_plant_328 : decode cX12_plant 328 = .ok (.getfield 62, 3) := by decide +kernel
theorem dX12_plant_331 : decode cX12_plant 331 = .ok (.iload_n 3, 1) := by decide +kernel
theorem dX12_plant_332 : decode cX12_plant 332 = .ok (.iaload, 1) := by decide +kernel
theorem dX12_plant_333 : decode cX12_plant 333 = .ok (.istore 4, 2) := by decide +kernel
theorem dX12_plant_335 : decode cX12_plant 335 = .ok (.iload 4, 2) := by decide +kernel
theorem dX12_plant_337 : decode cX12_plant 337 = .ok (.ifCond .ne 7, 3) := by decide +kernel
theorem dX12_plant_340 : decode cX12_plant 340 = .ok (.iconst 1, 1) := by decide +kernel
theorem dX12_plant_341 : decode cX12_plant 341 = .ok (.goto 4, 3) := by decide +kernel
theorem dX12_plant_344 : decode cX12_plant 344 = .ok (.iconst 0, 1) := by decide +kernel
theorem dX12_plant_345 : decode cX12_plant 345 = .ok (.istore 5, 2) := by decide +kernel
theorem dX12_plant_347 : decode cX12_plant 347 = .ok (.iconst 0, 1) := by decide +kernel
theorem dX12_plant_348 : decode cX12_plant 348 = .ok (.istore 6, 2) := by decide +kernel
theorem dX12_plant_350 : decode cX12_plant 350 = .ok (.iload 6, 2) := by decide +kernel
theorem dX12_plant_352 : decode cX12_plant 352 = .ok (.aload_n 0, 1) := by decide +kernel
theorem dX12_plant_353 : decode cX12_plant 353 = .ok (.getfield 7, 3) := by decide +kernel
theorem dX12_plant_356 : decode cX12_plant 356 = .ok (.if_icmp .ge 38, 3) := by decide +kernel
theorem dX12_plant_359 : decode cX12_plant 359 = .ok (.iload 5, 2) := by decide +kernel
theorem dX12_plant_361 : decode cX12_plant 361 = .ok (.ifCond .ne 20, 3) := by decide +kernel
theorem dX12_plant_364 : decode cX12_plant 364 = .ok (.aload_n 0, 1) := by decide +kernel
theorem dX12_plant_365 : decode cX12_plant 365 = .ok (.getfield 50, 3) := by decide +kernel
theorem dX12_plant_368 : decode cX12_plant 368 = .ok (.iconst 4, 1) := by decide +kernel
theorem dX12_plant_369 : decode cX12_plant 369 = .ok (.iload 4, 2) := by decide +kernel
theorem dX12_plant_371 : decode cX12_plant 371 = .ok (.imul, 1) := by decide +kernel
theorem dX12_plant_372 : decode cX12_plant 372 = .ok (.iload 6, 2) := by decide +kernel
theorem dX12_plant_374 : decode cX12_plant 374 = .ok (.iadd, 1) := by decide +kernel
theorem dX12_plant_375 : decode cX12_plant 375 = .ok (.iaload, 1) := by decide +kernel
theorem dX12_plant_376 : decode cX12_plant 376 = .ok (.bipush (-9), 2) := by decide +kernel
theorem dX12_plant_378 : decode cX12_plant 378 = .ok (.if_icmp .eq 7, 3) := by decide +kernel
theorem dX12_plant_381 : decode cX12_plant 381 = .ok (.iconst 1, 1) := by decide +kernel
theorem dX12_plant_382 : decode cX12_plant 382 = .ok (.goto 4, 3) := by decide +kernel
theorem dX12_plant_385 : decode cX12_plant 385 = .ok (.iconst 0, 1) := by decide +kernel
theorem dX12_plant_386 : decode cX12_plant 386 = .ok (.istore 5, 2) := by decide +kernel
theorem dX12_plant_388 : decode cX12_plant 388 = .ok (.iinc 6 1, 3) := by decide +kernel
theorem dX12_plant_391 : decode cX12_plant 391 = .ok (.goto (-41), 3) := by decide +kernel
theorem dX12_plant_394 : decode cX12_plant 394 = .ok (.aload_n 0, 1) := by decide +kernel
theorem dX12_plant_395 : decode cX12_plant 395 = .ok (.getfield 65, 3) := by decide +kernel
theorem dX12_plant_398 : decode cX12_plant 398 = .ok (.iload 4, 2) := by decide +kernel
theorem dX12_plant_400 : decode cX12_plant 400 = .ok (.bipush (-9), 2) := by decide +kernel
theorem dX12_plant_402 : decode cX12_plant 402 = .ok (.iastore, 1) := by decide +kernel
theorem dX12_plant_403 : decode cX12_plant 403 = .ok (.iload 5, 2) := by decide +kernel
theorem dX12_plant_405 : decode cX12_plant 405 = .ok (.ifCond .eq 35, 3) := by decide +kernel
theorem dX12_plant_408 : decode cX12_plant 408 = .ok (.aload_n 0, 1) := by decide +kernel
theorem dX12_plant_409 : decode cX12_plant 409 = .ok (.getfield 65, 3) := by decide +kernel
theorem dX12_plant_412 : decode cX12_plant 412 = .ok (.iload 4, 2) := by decide +kernel
theorem dX12_plant_414 : decode cX12_plant 414 = .ok (.aload_n 0, 1) := by decide +kernel
theorem dX12_plant_415 : decode cX12_plant 415 = .ok (.getfield 164, 3) := by decide +kernel
theorem dX12_plant_418 : decode cX12_plant 418 = .ok (.iastore, 1) := by decide +kernel
theorem dX12_plant_419 : decode cX12_plant 419 = .ok (.aload_n 0, 1) := by decide +kernel
theorem dX12_plant_420 : decode cX12_plant 420 = .ok (.getfield 68, 3) := by decide +kernel
theorem dX12_plant_423 : decode cX12_plant 423 = .ok (.aload_n 0, 1) := by decide +kernel
theorem dX12_plant_424 : decode cX12_plant 424 = .ok (.getfield 164, 3) := by decide +kernel
theorem dX12_plant_427 : decode cX12_plant 427 = .ok (.iload 4, 2) := by decide +kernel
theorem dX12_plant_429 : decode cX12_plant 429 = .ok (.iastore, 1) := by decide +kernel
theorem dX12_plant_430 : decode cX12_plant 430 = .ok (.aload_n 0, 1) := by decide +kernel
theorem dX12_plant_431 : decode cX12_plant 431 = .ok (.dup, 1) := by decide +kernel
theorem dX12_plant_432 : decode cX12_plant 432 = .ok (.getfield 164, 3) := by decide +kernel
theorem dX12_plant_435 : decode cX12_plant 435 = .ok (.iconst 1, 1) := by decide +kernel
theorem dX12_plant_436 : decode cX12_plant 436 = .ok (.iadd, 1) := by decide +kernel
theorem dX12_plant_437 : decode cX12_plant 437 = .ok (.putfield 164, 3) := by decide +kernel
theorem dX12_plant_440 : decode cX12_plant 440 = .ok (.iinc 3 1, 3) := by decide +kernel
theorem dX12_plant_443 : decode cX12_plant 443 = .ok (.goto (-124), 3) := by decide +kernel
theorem dX12_plant_446 : decode cX12_plant 446 = .ok (.return_, 1) := by decide +kernel
set_option maxRecDepth 20000 in
theorem ggX12_power_X12_isSlot : GoodIn wsX12_power wsX12_isSlot := goodIn_r _ [6, 7, 8, 9, 5, 10] (by decide +kernel) (by decide +kernel)
set_option maxRecDepth 20000 in
theorem gX12_power_X12_isSlot : GoodIn wsX12_power (va_wsS RX12 102 yX12_isSlot wsX12_isSlot) := goodIn_app (goodIn_of _ (by decide +kernel)) ggX12_power_X12_isSlot
set_option maxRecDepth 20000 in
theorem ggX12_power_X12_in : GoodIn wsX12_power wsX12_in := goodIn_r _ [10] (by decide +kernel) (by decide +kernel)
set_option maxRecDepth 20000 in
theorem gX12_power_X12_in : GoodIn wsX12_power (va_wsS RX12 93 yX12_in wsX12_in) := goodIn_app (goodIn_of _ (by decide +kernel)) ggX12_power_X12_in
set_option maxRecDepth 20000 in
theorem ggX12_power_X12_isMachine : GoodIn wsX12_power wsX12_isMachine := goodIn_r _ [14, 15, 16, 40, 41, 42, 43, 44, 45, 46, 47, 48, 49, 50, 51, 52, 53, 54, 55, 56, 57, 58, 59, 60, 61, 62, 63, 64, 65, 66, 67, 68, 69, 70, 71, 72, 73] (by decide +kernel) (by decide +kernel)
set_option maxRecDepth 20000 in
theorem gX12_power_X12_isMachine : GoodIn wsX12_power (wsV RX12 229 RX12 yX12_isMachine wsX12_isMachine) := goodIn_app (goodIn_of _ (by decide +kernel)) ggX12_power_X12_isMachine
set_option maxRecDepth 20000 in
theorem ggX12_power_X12_copy : GoodIn wsX12_power wsX12_copy := goodIn_r _ [20, 2, 21, 40, 41, 42, 43, 44, 45, 46, 47, 48, 49, 50, 51, 52, 53, 54, 55, 56, 57, 58, 59, 60, 61, 62, 63, 64, 65, 66, 67, 68, 69, 70, 71, 72, 73] (by decide +kernel) (by decide +kernel)
set_option maxRecDepth 20000 in
theorem gX12_power_X12_copy : GoodIn wsX12_power (wsV RX12 106 RX12 yX12_copy wsX12_copy) := goodIn_app (goodIn_of _ (by decide +kernel)) ggX12_power_X12_copy
set_option maxRecDepth 20000 in
theorem ggX12_power_X12_reduceAt : GoodIn wsX12_power wsX12_reduceAt := goodIn_r _ [25, 2, 21, 26, 27, 28, 29, 30, 31, 40, 41, 42, 43, 44, 45, 46, 47, 48, 49, 50, 51, 52, 53, 54, 55, 56, 57, 58, 59, 60, 61, 62, 63, 64, 65, 66, 67, 68, 69, 70, 71, 72, 73] rfl (by decide +kernel)
set_option maxRecDepth 20000 in
theorem gX12_power_X12_reduceAt : GoodIn wsX12_power (wsV RX12 167 RX12 yX12_reduceAt wsX12_reduceAt) := goodIn_app (goodIn_of _ (by decide +kernel)) ggX12_power_X12_reduceAt
set_option maxRecDepth 20000 in
theorem ggX12_power_X12_times : GoodIn wsX12_power wsX12_times := goodIn_r _ [35, 2, 36, 37, 38, 5, 39, 21, 22, 23, 24, 25, 26, 27, 28, 29, 30, 31, 40, 41, 42, 43, 44, 45, 46, 47, 48, 49, 50, 51, 52, 53, 54, 55, 56, 57, 58, 59, 60, 61, 62, 63, 64, 65, 66, 67, 68, 69, 70, 71, 72, 73] rfl (by decide +kernel)
set_option maxRecDepth 20000 in
theorem gX12_power_X12_times : GoodIn wsX12_power (wsV RX12 260 RX12 yX12_times wsX12_times) := goodIn_app (goodIn_of _ (by decide +kernel)) ggX12_power_X12_times
theorem dX12_power_0 : decode cX12_power 0 = .ok (.iload_n 1, 1) := by decide +kernel
theorem dX12_power_1 : decode cX12_power 1 = .ok (.invokestatic 102, 3) := by decide +kernel
theorem dX12_power_4 : decode cX12_power 4 = .ok (.ifCond .eq 10, 3) := by decide +kernel
theorem dX12_power_7 : decode cX12_power 7 = .ok (.iload_n 3, 1) := by decide +kernel
theorem dX12_power_8 : decode cX12_power 8 = .ok (.invokestatic 102, 3) := by decide +kernel
theorem dX12_power_11 : decode cX12_power 11 = .ok (.ifCond .ne 5, 3) := by decide +kernel
theorem dX12_power_14 : decode cX12_power 14 = .ok (.iconst (-1), 1) := by decide +kernel
theorem dX12_power_15 : decode cX12_power 15 = .ok (.ireturn, 1) := by decide +kernel
theorem dX12_power_16 : decode cX12_power 16 = .ok (.iload_n 2, 1) := by decide +kernel
theorem dX12_power_17 : decode cX12_power 17 = .ok (.i2l, 1) := by decide +kernel
theorem dX12_power_18 : decode cX12_power 18 = .ok (.lconst 0, 1) := by decide +kernel
theorem dX12_power_19 : decode cX12_power 19 = .ok (.ldc2_w 258, 3) := by decide +kernel
theorem dX12_power_22 : decode cX12_power 22 = .ok (.invokestatic 93, 3) := by decide +kernel
theorem dX12_power_25 : decode cX12_power 25 = .ok (.ifCond .ne 6, 3) := by decide +kernel
theorem dX12_power_28 : decode cX12_power 28 = .ok (.bipush (-2), 2) := by decide +kernel
theorem dX12_power_30 : decode cX12_power 30 = .ok (.ireturn, 1) := by decide +kernel
theorem dX12_power_31 : decode cX12_power 31 = .ok (.aload_n 0, 1) := by decide +kernel
theorem dX12_power_32 : decode cX12_power 32 = .ok (.invokevirtual 229, 3) := by decide +kernel
theorem dX12_power_35 : decode cX12_power 35 = .ok (.ifCond .ne 6, 3) := by decide +kernel
theorem dX12_power_38 : decode cX12_power 38 = .ok (.bipush (-3), 2) := by decide +kernel
theorem dX12_power_40 : decode cX12_power 40 = .ok (.ireturn, 1) := by decide +kernel
theorem dX12_power_41 : decode cX12_power 41 = .ok (.aload_n 0, 1) := by decide +kernel
theorem dX12_power_42 : decode cX12_power 42 = .ok (.iload_n 1, 1) := by decide +kernel
theorem dX12_power_43 : decode cX12_power 43 = .ok (.bipush 10, 2) := by decide +kernel
theorem dX12_power_45 : decode cX12_power 45 = .ok (.invokevirtual 106, 3) := by decide +kernel
theorem dX12_power_48 : decode cX12_power 48 = .ok (.aload_n 0, 1) := by decide +kernel
theorem dX12_power_49 : decode cX12_power 49 = .ok (.bipush 10, 2) := by decide +kernel
theorem dX12_power_51 : decode cX12_power 51 = .ok (.invokevirtual 167, 3) := by decide +kernel
theorem dX12_power_54 : decode cX12_power 54 = .ok (.aload_n 0, 1) := by decide +kernel
theorem dX12_power_55 : decode cX12_power 55 = .ok (.getfield 13, 3) := by decide +kernel
theorem dX12_power_58 : decode cX12_power 58 = .ok (.bipush 9, 2) := by decide +kernel
theorem dX12_power_60 : decode cX12_power 60 = .ok (.iconst 0, 1) := by decide +kernel
theorem dX12_power_61 : decode cX12_power 61 = .ok (.iastore, 1) := by decide +kernel
theorem dX12_power_62 : decode cX12_power 62 = .ok (.iconst 0, 1) := by decide +kernel
theorem dX12_power_63 : decode cX12_power 63 = .ok (.istore 4, 2) := by decide +kernel
theorem dX12_power_65 : decode cX12_power 65 = .ok (.iload 4, 2) := by decide +kernel
theorem dX12_power_67 : decode cX12_power 67 = .ok (.iload_n 2, 1) := by decide +kernel
theorem dX12_power_68 : decode cX12_power 68 = .ok (.if_icmp .ge 23, 3) := by decide +kernel
theorem dX12_power_71 : decode cX12_power 71 = .ok (.aload_n 0, 1) := by decide +kernel
theorem dX12_power_72 : decode cX12_power 72 = .ok (.bipush 9, 2) := by decide +kernel
theorem dX12_power_74 : decode cX12_power 74 = .ok (.bipush 10, 2) := by decide +kernel
theorem dX12_power_76 : decode cX12_power 76 = .ok (.invokevirtual 260, 3) := by decide +kernel
theorem dX12_power_79 : decode cX12_power 79 = .ok (.ifCond .ne 6, 3) := by decide +kernel
theorem dX12_power_82 : decode cX12_power 82 = .ok (.bipush (-4), 2) := by decide +kernel
theorem dX12_power_84 : decode cX12_power 84 = .ok (.ireturn, 1) := by decide +kernel
theorem dX12_power_85 : decode cX12_power 85 = .ok (.iinc 4 1, 3) := by decide +kernel
theorem dX12_power_88 : decode cX12_power 88 = .ok (.goto (-23), 3) := by decide +kernel
theorem dX12_power_91 : decode cX12_power 91 = .ok (.aload_n 0, 1) := by decide +kernel
theorem dX12_power_92 : decode cX12_power 92 = .ok (.bipush 9, 2) := by decide +kernel
theorem dX12_power_94 : decode cX12_power 94 = .ok (.iload_n 3, 1) := by decide +kernel
theorem dX12_power_95 : decode cX12_power 95 = .ok (.invokevirtual 106, 3) := by decide +kernel
theorem dX12_power_98 : decode cX12_power 98 = .ok (.aload_n 0, 1) := by decide +kernel
theorem dX12_power_99 : decode cX12_power 99 = .ok (.getfield 13, 3) := by decide +kernel
theorem dX12_power_102 : decode cX12_power 102 = .ok (.iload_n 3, 1) := by decide +kernel
theorem dX12_power_103 : decode cX12_power 103 = .ok (.iaload, 1) := by decide +kernel
theorem dX12_power_104 : decode cX12_power 104 = .ok (.ireturn, 1) := by decide +kernel
theorem dX12_powerOf_0 : decode cX12_powerOf 0 = .ok (.iconst 1, 1) := by decide +kernel
theorem dX12_powerOf_1 : decode cX12_powerOf 1 = .ok (.istore_n 2, 1) := by decide +kernel
theorem dX12_powerOf_2 : decode cX12_powerOf 2 = .ok (.iconst 0, 1) := by decide +kernel
theorem dX12_powerOf_3 : decode cX12_powerOf 3 = .ok (.istore_n 3, 1) := by decide +kernel
theorem dX12_powerOf_4 : decode cX12_powerOf 4 = .ok (.iload_n 3, 1) := by decide +kernel
theorem dX12_powerOf_5 : decode cX12_powerOf 5 = .ok (.iload_n 1, 1) := by decide +kernel
theorem dX12_powerOf_6 : decode cX12_powerOf 6 = .ok (.if_icmp .ge 16, 3) := by decide +kernel
theorem dX12_powerOf_9 : decode cX12_powerOf 9 = .ok (.iload_n 2, 1) := by decide +kernel
theorem dX12_powerOf_10 : decode cX12_powerOf 10 = .ok (.aload_n 0, 1) := by decide +kernel
theorem dX12_powerOf_11 : decode cX12_powerOf 11 = .ok (.getfield 7, 3) := by decide +kernel
theorem dX12_powerOf_14 : decode cX12_powerOf 14 = .ok (.imul, 1) := by decide +kernel
theorem dX12_powerOf_15 : decode cX12_powerOf 15 = .ok (.istore_n 2, 1) := by decide +kernel
theorem dX12_powerOf_16 : decode cX12_powerOf 16 = .ok (.iinc 3 1, 3) := by decide +kernel
theorem dX12_powerOf_19 : decode cX12_powerOf 19 = .ok (.goto (-15), 3) := by decide +kernel
theorem dX12_powerOf_22 : decode cX12_powerOf 22 = .ok (.iload_n 2, 1) := by decide +kernel
theorem dX12_powerOf_23 : decode cX12_powerOf 23 = .ok (.ireturn, 1) := by decide +kernel
