set_option maxRecDepth 20000 in
theorem ggX12_see_X12_in : GoodIn wsX12_see wsX12_in := goodIn_r _ [9] (by decide +kernel) (by decide +kernel)
set_option maxRecDepth 20000 in
theorem gX12_see_X12_in : GoodIn wsX12_see (va_wsS RX12 93 yX12_in wsX12_in) := goodIn_app (goodIn_of _ (by decide +kernel)) ggX12_see_X12_in
set_option maxRecDepth 20000 in
theorem ggX12_see_X12_wordsTo : GoodIn wsX12_see wsX12_wordsTo := goodIn_r _ [13, 14, 15, 148, 149, 150, 151, 152, 153, 154, 155, 156, 157, 158, 159, 160, 161, 162, 163, 164, 165, 166, 167, 168, 169, 170, 171, 172, 173, 174, 175, 176, 177, 178, 179, 180, 181] rfl (by decide +kernel)
set_option maxRecDepth 20000 in
theorem gX12_see_X12_wordsTo : GoodIn wsX12_see (wsV RX12 200 RX12 yX12_wordsTo wsX12_wordsTo) := goodIn_app (goodIn_of _ (by decide +kernel)) ggX12_see_X12_wordsTo
set_option maxRecDepth 20000 in
theorem ggX12_see_X12_joinAll : GoodIn wsX12_see wsX12_joinAll := goodIn_r _ [19, 3, 20, 15, 21, 22, 23, 24, 25, 26, 27, 8, 28, 29, 30, 31, 32, 33, 34, 35, 36, 37, 38, 39, 40, 41, 42, 43, 44, 45, 46, 47, 48, 49, 50, 148, 149, 150, 151, 152, 153, 154, 155, 156, 157, 158, 159, 160, 161, 162, 163, 164, 165, 166, 167, 168, 169, 170, 171, 172, 173, 174, 175, 176, 177, 178, 179, 180, 181] rfl (by decide +kernel)
set_option maxRecDepth 20000 in
theorem gX12_see_X12_joinAll : GoodIn wsX12_see (wsV RX12 203 RX12 yX12_joinAll wsX12_joinAll) := goodIn_app (goodIn_of _ (by decide +kernel)) ggX12_see_X12_joinAll
set_option maxRecDepth 20000 in
theorem ggX12_see_X12_findRules : GoodIn wsX12_see wsX12_findRules := goodIn_r _ [54, 5, 3, 55, 56, 57, 8, 58, 20, 59, 60, 61, 62, 15, 24, 45, 41, 42, 43, 44, 23, 63, 64, 65, 66, 37, 38, 39, 40, 67, 68, 69, 70, 71, 72, 73, 74, 75, 76, 77, 78, 33, 34, 35, 36, 148, 149, 150, 151, 152, 153, 154, 155, 156, 157, 158, 159, 160, 161, 162, 163, 164, 165, 166, 167, 168, 169, 170, 171, 172, 173, 174, 175, 176, 177, 178, 179, 180, 181] rfl (by decide +kernel)
set_option maxRecDepth 20000 in
theorem gX12_see_X12_findRules : GoodIn wsX12_see (wsV RX12 206 RX12 yX12_findRules wsX12_findRules) := goodIn_app (goodIn_of _ (by decide +kernel)) ggX12_see_X12_findRules
set_option maxRecDepth 20000 in
theorem ggX12_see_X12_plant : GoodIn wsX12_see wsX12_plant := goodIn_r _ [82, 83, 5, 75, 76, 84, 85, 86, 87, 15, 88, 89, 90, 91, 92, 93, 94, 8, 95, 148, 149, 150, 151, 152, 153, 154, 155, 156, 157, 158, 159, 160, 161, 162, 163, 164, 165, 166, 167, 168, 169, 170, 171, 172, 173, 174, 175, 176, 177, 178, 179, 180, 181] rfl (by decide +kernel)
set_option maxRecDepth 20000 in
theorem gX12_see_X12_plant : GoodIn wsX12_see (wsV RX12 209 RX12 yX12_plant wsX12_plant) := goodIn_app (goodIn_of _ (by decide +kernel)) ggX12_see_X12_plant
set_option maxRecDepth 20000 in
theorem ggX12_see_X12_closes : GoodIn wsX12_see wsX12_closes := goodIn_r _ [99, 5, 100, 101, 102, 8, 103, 21, 104, 50, 22, 105, 106, 107, 108, 109, 110, 111, 112, 113, 114, 115, 116, 117, 118, 88, 85, 75, 77, 78, 119, 120, 121, 122, 123, 124, 125, 126, 76, 127, 128, 129, 130, 131, 132, 133, 134, 135, 136, 137, 138, 148, 149, 150, 151, 152, 153, 154, 155, 156, 157, 158, 159, 160, 161, 162, 163, 164, 165, 166, 167, 168, 169, 170, 171, 172, 173, 174, 175, 176, 177, 178, 179, 180, 181] rfl (by decide +kernel)
set_option maxRecDepth 20000 in
theorem gX12_see_X12_closes : GoodIn wsX12_see (wsV RX12 212 RX12 yX12_closes wsX12_closes) := goodIn_app (goodIn_of _ (by decide +kernel)) ggX12_see_X12_closes
set_option maxRecDepth 20000 in
theorem ggX12_see_X12_countAll : GoodIn wsX12_see wsX12_countAll := goodIn_r _ [142, 89, 15, 143, 144, 145, 146, 8, 147, 88, 91, 85, 90, 148, 149, 150, 151, 152, 153, 154, 155, 156, 157, 158, 159, 160, 161, 162, 163, 164, 165, 166, 167, 168, 169, 170, 171, 172, 173, 174, 175, 176, 177, 178, 179, 180, 181] rfl (by decide +kernel)
set_option maxRecDepth 20000 in
theorem gX12_see_X12_countAll : GoodIn wsX12_see (wsV RX12 219 RX12 yX12_countAll wsX12_countAll) := goodIn_app (goodIn_of _ (by decide +kernel)) ggX12_see_X12_countAll
theorem dX12_see_0 : decode cX12_see 0 = .ok (.iload_n 1, 1) := by decide +kernel
theorem dX12_see_1 : decode cX12_see 1 = .ok (.i2l, 1) := by decide +kernel
theorem dX12_see_2 : decode cX12_see 2 = .ok (.lconst 1, 1) := by decide +kernel
theorem dX12_see_3 : decode cX12_see 3 = .ok (.ldc2_w 198, 3) := by decide +kernel
theorem dX12_see_6 : decode cX12_see 6 = .ok (.invokestatic 93, 3) := by decide +kernel
theorem dX12_see_9 : decode cX12_see 9 = .ok (.ifCond .eq 14, 3) := by decide +kernel
theorem dX12_see_12 : decode cX12_see 12 = .ok (.aload_n 0, 1) := by decide +kernel
theorem dX12_see_13 : decode cX12_see 13 = .ok (.iload_n 1, 1) := by decide +kernel
theorem dX12_see_14 : decode cX12_see 14 = .ok (.invokevirtual 200, 3) := by decide +kernel
theorem dX12_see_17 : decode cX12_see 17 = .ok (.sipush 10000, 3) := by decide +kernel
theorem dX12_see_20 : decode cX12_see 20 = .ok (.if_icmp .le 6, 3) := by decide +kernel
theorem dX12_see_23 : decode cX12_see 23 = .ok (.bipush (-2), 2) := by decide +kernel
theorem dX12_see_25 : decode cX12_see 25 = .ok (.ireturn, 1) := by decide +kernel
theorem dX12_see_26 : decode cX12_see 26 = .ok (.aload_n 0, 1) := by decide +kernel
theorem dX12_see_27 : decode cX12_see 27 = .ok (.bipush (-9), 2) := by decide +kernel
theorem dX12_see_29 : decode cX12_see 29 = .ok (.putfield 26, 3) := by decide +kernel
theorem dX12_see_32 : decode cX12_see 32 = .ok (.aload_n 0, 1) := by decide +kernel
theorem dX12_see_33 : decode cX12_see 33 = .ok (.aload_n 0, 1) := by decide +kernel
theorem dX12_see_34 : decode cX12_see 34 = .ok (.iload_n 1, 1) := by decide +kernel
theorem dX12_see_35 : decode cX12_see 35 = .ok (.invokevirtual 200, 3) := by decide +kernel
theorem dX12_see_38 : decode cX12_see 38 = .ok (.putfield 122, 3) := by decide +kernel
theorem dX12_see_41 : decode cX12_see 41 = .ok (.aload_n 0, 1) := by decide +kernel
theorem dX12_see_42 : decode cX12_see 42 = .ok (.iload_n 1, 1) := by decide +kernel
theorem dX12_see_43 : decode cX12_see 43 = .ok (.invokevirtual 203, 3) := by decide +kernel
theorem dX12_see_46 : decode cX12_see 46 = .ok (.aload_n 0, 1) := by decide +kernel
theorem dX12_see_47 : decode cX12_see 47 = .ok (.invokevirtual 206, 3) := by decide +kernel
theorem dX12_see_50 : decode cX12_see 50 = .ok (.ifCond .ne 6, 3) := by decide +kernel
theorem dX12_see_53 : decode cX12_see 53 = .ok (.bipush (-4), 2) := by decide +kernel
theorem dX12_see_55 : decode cX12_see 55 = .ok (.ireturn, 1) := by decide +kernel
theorem dX12_see_56 : decode cX12_see 56 = .ok (.aload_n 0, 1) := by decide +kernel
theorem dX12_see_57 : decode cX12_see 57 = .ok (.invokevirtual 209, 3) := by decide +kernel
theorem dX12_see_60 : decode cX12_see 60 = .ok (.aload_n 0, 1) := by decide +kernel
theorem dX12_see_61 : decode cX12_see 61 = .ok (.iload_n 1, 1) := by decide +kernel
theorem dX12_see_62 : decode cX12_see 62 = .ok (.putfield 26, 3) := by decide +kernel
theorem dX12_see_65 : decode cX12_see 65 = .ok (.aload_n 0, 1) := by decide +kernel
theorem dX12_see_66 : decode cX12_see 66 = .ok (.aload_n 0, 1) := by decide +kernel
theorem dX12_see_67 : decode cX12_see 67 = .ok (.invokevirtual 212, 3) := by decide +kernel
theorem dX12_see_70 : decode cX12_see 70 = .ok (.putfield 215, 3) := by decide +kernel
theorem dX12_see_73 : decode cX12_see 73 = .ok (.aload_n 0, 1) := by decide +kernel
theorem dX12_see_74 : decode cX12_see 74 = .ok (.getfield 215, 3) := by decide +kernel
theorem dX12_see_77 : decode cX12_see 77 = .ok (.ifCond .eq 7, 3) := by decide +kernel
theorem dX12_see_80 : decode cX12_see 80 = .ok (.aload_n 0, 1) := by decide +kernel
theorem dX12_see_81 : decode cX12_see 81 = .ok (.invokevirtual 219, 3) := by decide +kernel
theorem dX12_see_84 : decode cX12_see 84 = .ok (.aload_n 0, 1) := by decide +kernel
theorem dX12_see_85 : decode cX12_see 85 = .ok (.getfield 139, 3) := by decide +kernel
theorem dX12_see_88 : decode cX12_see 88 = .ok (.ireturn, 1) := by decide +kernel
theorem dX12_seen_0 : decode cX12_seen 0 = .ok (.aload_n 0, 1) := by decide +kernel
theorem dX12_seen_1 : decode cX12_seen 1 = .ok (.getfield 26, 3) := by decide +kernel
theorem dX12_seen_4 : decode cX12_seen 4 = .ok (.ireturn, 1) := by decide +kernel
set_option maxRecDepth 20000 in
theorem ggX12_size_X12_isMachine : GoodIn wsX12_size wsX12_isMachine := goodIn_r _ [9, 10, 11, 28, 29, 30, 31, 32, 33, 34, 35, 36, 37, 38, 39, 40, 41, 42, 43, 44, 45, 46, 47, 48, 49, 50, 51, 52, 53, 54, 55, 56, 57, 58, 59, 60, 61] (by decide +kernel) (by decide +kernel)
set_option maxRecDepth 20000 in
theorem gX12_size_X12_isMachine : GoodIn wsX12_size (wsV RX12 229 RX12 yX12_isMachine wsX12_isMachine) := goodIn_app (goodIn_of _ (by decide +kernel)) ggX12_size_X12_isMachine
set_option maxRecDepth 20000 in
theorem ggX12_size_X12_longest : GoodIn wsX12_size wsX12_longest := goodIn_r _ [15, 16, 17, 18, 19, 20, 21, 22, 8, 23, 24, 25, 26, 27, 28, 29, 30, 31, 32, 33, 34, 35, 36, 37, 38, 39, 40, 41, 42, 43, 44, 45, 46, 47, 48, 49, 50, 51, 52, 53, 54, 55, 56, 57, 58, 59, 60, 61] rfl (by decide +kernel)
set_option maxRecDepth 20000 in
theorem gX12_size_X12_longest : GoodIn wsX12_size (wsV RX12 238 RX12 yX12_longest wsX12_longest) := goodIn_app (goodIn_of _ (by decide +kernel)) ggX12_size_X12_longest
theorem dX12_size_0 : decode cX12_size 0 = .ok (.aload_n 0, 1) := by decide +kernel
theorem dX12_size_1 : decode cX12_size 1 = .ok (.invokevirtual 229, 3) := by decide +kernel
theorem dX12_size_4 : decode cX12_size 4 = .ok (.ifCond .ne 7, 3) := by decide +kernel
theorem dX12_size_7 : decode cX12_size 7 = .ok (.ldc2_w 236, 3) := by decide +kernel
theorem dX12_size_10 : decode cX12_size 10 = .ok (.lreturn, 1) := by decide +kernel
theorem dX12_size_11 : decode cX12_size 11 = .ok (.aload_n 0, 1) := by decide +kernel
theorem dX12_size_12 : decode cX12_size 12 = .ok (.invokevirtual 238, 3) := by decide +kernel
theorem dX12_size_15 : decode cX12_size 15 = .ok (.istore_n 1, 1) := by decide +kernel
theorem dX12_size_16 : decode cX12_size 16 = .ok (.iload_n 1, 1) := by decide +kernel
theorem dX12_size_17 : decode cX12_size 17 = .ok (.bipush (-9), 2) := by decide +kernel
theorem dX12_size_19 : decode cX12_size 19 = .ok (.if_icmp .eq 9, 3) := by decide +kernel
theorem dX12_size_22 : decode cX12_size 22 = .ok (.iload_n 1, 1) := by decide +kernel
theorem dX12_size_23 : decode cX12_size 23 = .ok (.bipush 30, 2) := by decide +kernel
theorem dX12_size_25 : decode cX12_size 25 = .ok (.if_icmp .le 19, 3) := by decide +kernel
theorem dX12_size_28 : decode cX12_size 28 = .ok (.iload_n 1, 1) := by decide +kernel
theorem dX12_size_29 : decode cX12_size 29 = .ok (.bipush (-9), 2) := by decide +kernel
theorem dX12_size_31 : decode cX12_size 31 = .ok (.if_icmp .ne 9, 3) := by decide +kernel
theorem dX12_size_34 : decode cX12_size 34 = .ok (.ldc2_w 241, 3) := by decide +kernel
theorem dX12_size_37 : decode cX12_size 37 = .ok (.goto 6, 3) := by decide +kernel
theorem dX12_size_40 : decode cX12_size 40 = .ok (.ldc2_w 243, 3) := by decide +kernel
theorem dX12_size_43 : decode cX12_size 43 = .ok (.lreturn, 1) := by decide +kernel
theorem dX12_size_44 : decode cX12_size 44 = .ok (.lconst 0, 1) := by decide +kernel
theorem dX12_size_45 : decode cX12_size 45 = .ok (.lstore_n 2, 1) := by decide +kernel
theorem dX12_size_46 : decode cX12_size 46 = .ok (.iconst 0, 1) := by decide +kernel
theorem dX12_size_47 : decode cX12_size 47 = .ok (.istore 4, 2) := by decide +kernel
theorem dX12_size_49 : decode cX12_size 49 = .ok (.iload 4, 2) := by decide +kernel
theorem dX12_size_51 : decode cX12_size 51 = .ok (.iload_n 1, 1) := by decide +kernel
theorem dX12_size_52 : decode cX12_size 52 = .ok (.if_icmp .gt 19, 3) := by decide +kernel
theorem dX12_size_55 : decode cX12_size 55 = .ok (.lload_n 2, 1) := by decide +kernel
theorem dX12_size_56 : decode cX12_size 56 = .ok (.aload_n 0, 1) := by decide +kernel
theorem dX12_size_57 : decode cX12_size 57 = .ok (.getfield 74, 3) := by decide +kernel
theorem dX12_size_60 : decode cX12_size 60 = .ok (.iload 4, 2) := by decide +kernel
theorem dX12_size_62 : decode cX12_size 62 = .ok (.laload, 1) := by decide +kernel
theorem dX12_size_63 : decode cX12_size 63 = .ok (.ladd, 1) := by decide +kernel
theorem dX12_size_64 : decode cX12_size 64 = .ok (.lstore_n 2, 1) := by decide +kernel
theorem dX12_size_65 : decode cX12_size 65 = .ok (.iinc 4 1, 3) := by decide +kernel
theorem dX12_size_68 : decode cX12_size 68 = .ok (.goto (-19), 3) := by decide +kernel
theorem dX12_size_71 : decode cX12_size 71 = .ok (.lload_n 2, 1) := by decide +kernel
theorem dX12_size_72 : decode cX12_size 72 = .ok (.lreturn, 1) := by decide +kernel
set_option maxRecDepth 20000 in
theorem ggX12_slot_X12_isSlot : GoodIn wsX12_slot wsX12_isSlot := goodIn_r _ [5, 6, 7, 8, 4, 9] (by decide +kernel) (by decide +kernel)
set_option maxRecDepth 20000 in
theorem gX12_slot_X12_isSlot : GoodIn wsX12_slot (va_wsS RX12 102 yX12_isSlot wsX12_isSlot) := goodIn_app (goodIn_of _ (by decide +kernel)) ggX12_slot_X12_isSlot
set_option maxRecDepth 20000 in
theorem ggX12_slot_X12_copy : GoodIn wsX12_slot wsX12_copy := goodIn_r _ [13, 1, 14, 15, 16, 17, 18, 19, 20, 21, 22, 23, 24, 25, 26, 27, 28, 29, 30, 31, 32, 33, 34, 35, 36, 37, 38, 39, 40, 41, 42, 43, 44, 45, 46, 47, 48] (by decide +kernel) (by decide +kernel)
set_option maxRecDepth 20000 in
theorem gX12_slot_X12_copy : GoodIn wsX12_slot (wsV RX12 106 RX12 yX12_copy wsX12_copy) := goodIn_app (goodIn_of _ (by decide +kernel)) ggX12_slot_X12_copy
theorem dX12_slot_0 : decode cX12_slot 0 = .ok (.iload_n 1, 1) := by decide +kernel
theorem dX12_slot_1 : decode cX12_slot 1 = .ok (.invokestatic 102, 3) := by decide +kernel
theorem dX12_slot_4 : decode cX12_slot 4 = .ok (.ifCond .ne 5, 3) := by decide +kernel
theorem dX12_slot_7 : decode cX12_slot 7 = .ok (.iconst (-1), 1) := by decide +kernel
theorem dX12_slot_8 : decode cX12_slot 8 = .ok (.ireturn, 1) := by decide +kernel
theorem dX12_slot_9 : decode cX12_slot 9 = .ok (.aload_n 0, 1) := by decide +kernel
theorem dX12_slot_10 : decode cX12_slot 10 = .ok (.bipush 8, 2) := by decide +kernel
theorem dX12_slot_12 : decode cX12_slot 12 = .ok (.iload_n 1, 1) := by decide +kernel
theorem dX12_slot_13 : decode cX12_slot 13 = .ok (.invokevirtual 106, 3) := by decide +kernel
theorem dX12_slot_16 : decode cX12_slot 16 = .ok (.aload_n 0, 1) := by decide +kernel
theorem dX12_slot_17 : decode cX12_slot 17 = .ok (.getfield 13, 3) := by decide +kernel
theorem dX12_slot_20 : decode cX12_slot 20 = .ok (.bipush 8, 2) := by decide +kernel
theorem dX12_slot_22 : decode cX12_slot 22 = .ok (.iconst 0, 1) := by decide +kernel
theorem dX12_slot_23 : decode cX12_slot 23 = .ok (.iastore, 1) := by decide +kernel
theorem dX12_slot_24 : decode cX12_slot 24 = .ok (.aload_n 0, 1) := by decide +kernel
theorem dX12_slot_25 : decode cX12_slot 25 = .ok (.getfield 13, 3) := by decide +kernel
theorem dX12_slot_28 : decode cX12_slot 28 = .ok (.iload_n 1, 1) := by decide +kernel
theorem dX12_slot_29 : decode cX12_slot 29 = .ok (.iaload, 1) := by decide +kernel
theorem dX12_slot_30 : decode cX12_slot 30 = .ok (.ireturn, 1) := by decide +kernel
theorem dX12_stands_0 : decode cX12_stands 0 = .ok (.iconst 1, 1) := by decide +kernel
theorem dX12_stands_1 : decode cX12_stands 1 = .ok (.istore 4, 2) := by decide +kernel
theorem dX12_stands_3 : decode cX12_stands 3 = .ok (.iconst 0, 1) := by decide +kernel
theorem dX12_stands_4 : decode cX12_stands 4 = .ok (.istore 5, 2) := by decide +kernel
theorem dX12_stands_6 : decode cX12_stands 6 = .ok (.iload 5, 2) := by decide +kernel
theorem dX12_stands_8 : decode cX12_stands 8 = .ok (.aload_n 0, 1) := by decide +kernel
theorem dX12_stands_9 : decode cX12_stands 9 = .ok (.getfield 38, 3) := by decide +kernel
theorem dX12_stands_12 : decode cX12_stands 12 = .ok (.iload_n 2, 1) := by decide +kernel
theorem dX12_stands_13 : decode cX12_stands 13 = .ok (.iaload, 1) := by decide +kernel
theorem dX12_stands_14 : decode cX12_stands 14 = .ok (.if_icmp .ge 50, 3) := by decide +kernel
theorem dX12_stands_17 : decode cX12_stands 17 = .ok (.iload 4, 2) := by decide +kernel
theorem dX12_stands_19 : decode cX12_stands 19 = .ok (.ifCond .eq 45, 3) := by decide +kernel
theorem dX12_stands_22 : decode cX12_stands 22 = .ok (.aload_n 0, 1) := by decide +kernel
theorem dX12_stands_23 : decode cX12_stands 23 = .ok (.getfield 41, 3) := by decide +kernel
theorem dX12_stands_26 : decode cX12_stands 26 = .ok (.bipush 24, 2) := by decide +kernel
theorem dX12_stands_28 : decode cX12_stands 28 = .ok (.iload_n 1, 1) := by decide +kernel
theorem dX12_stands_29 : decode cX12_stands 29 = .ok (.imul, 1) := by decide +kernel
theorem dX12_stands_30 : decode cX12_stands 30 = .ok (.iload_n 3, 1) := by decide +kernel
theorem dX12_stands_31 : decode cX12_stands 31 = .ok (.iadd, 1) := by decide +kernel
theorem dX12_stands_32 : decode cX12_stands 32 = .ok (.iload 5, 2) := by decide +kernel
theorem dX12_stands_34 : decode cX12_stands 34 = .ok (.iadd, 1) := by decide +kernel
theorem dX12_stands_35 : decode cX12_stands 35 = .ok (.iaload, 1) := by decide +kernel
theorem dX12_stands_36 : decode cX12_stands 36 = .ok (.aload_n 0, 1) := by decide +kernel
theorem dX12_stands_37 : decode cX12_stands 37 = .ok (.getfield 41, 3) := by decide +kernel
theorem dX12_stands_40 : decode cX12_stands 40 = .ok (.bipush 24, 2) := by decide +kernel
theorem dX12_stands_42 : decode cX12_stands 42 = .ok (.iload_n 2, 1) := by decide +kernel
theorem dX12_stands_43 : decode cX12_stands 43 = .ok (.imul, 1) := by decide +kernel
theorem dX12_stands_44 : decode cX12_stands 44 = .ok (.iload 5, 2) := by decide +kernel
theorem dX12_stands_46 : decode cX12_stands 46 = .ok (.iadd, 1) := by decide +kernel
theorem dX12_stands_47 : decode cX12_stands 47 = .ok (.iaload, 1) := by decide +kernel
theorem dX12_stands_48 : decode cX12_stands 48 = .ok (.if_icmp .ne 7, 3) := by decide +kernel
theorem dX12_stands_51 : decode cX12_stands 51 = .ok (.iconst 1, 1) := by decide +kernel
theorem dX12_stands_52 : decode cX12_stands 52 = .ok (.goto 4, 3) := by decide +kernel
theorem dX12_stands_55 : decode cX12_stands 55 = .ok (.iconst 0, 1) := by decide +kernel
theorem dX12_stands_56 : decode cX12_stands 56 = .ok (.istore 4, 2) := by decide +kernel
theorem dX12_stands_58 : decode cX12_stands 58 = .ok (.iinc 5 1, 3) := by decide +kernel
theorem dX12_stands_61 : decode cX12_stands 61 = .ok (.goto (-55), 3) := by decide +kernel
theorem dX12_stands_64 : decode cX12_stands 64 = .ok (.iload 4, 2) := by decide +kernel
theorem dX12_stands_66 : decode cX12_stands 66 = .ok (.ireturn, 1) := by decide +kernel
set_option maxRecDepth 20000 in
theorem ggX12_states_X12_isMachine : GoodIn wsX12_states wsX12_isMachine := goodIn_r _ [6, 7, 8, 9, 10, 11, 12, 13, 14, 15, 16, 17, 18, 19, 20, 21, 22, 23, 24, 25, 26, 27, 28, 29, 30, 31, 32, 33, 34, 35, 36, 37, 38, 39, 40, 41, 42] (by decide +kernel) (by decide +kernel)
set_option maxRecDepth 20000 in
theorem gX12_states_X12_isMachine : GoodIn wsX12_states (wsV RX12 229 RX12 yX12_isMachine wsX12_isMachine) := goodIn_app (goodIn_of _ (by decide +kernel)) ggX12_states_X12_isMachine
theorem dX12_states_0 : decode cX12_states 0 = .ok (.aload_n 0, 1) := by decide +kernel
theorem dX12_states_1 : decode cX12_states 1 = .ok (.invokevirtual 229, 3) := by decide +kernel
theorem dX12_states_4 : decode cX12_states 4 = .ok (.ifCond .eq 10, 3) := by decide +kernel
theorem dX12_states_7 : decode cX12_states 7 = .ok (.aload_n 0, 1) := by decide +kernel
theorem dX12_states_8 : decode cX12_states 8 = .ok (.getfield 164, 3) := by decide +kernel
theorem dX12_states_11 : decode cX12_states 11 = .ok (.goto 5, 3) := by decide +kernel
theorem dX12_states_14 : decode cX12_states 14 = .ok (.bipush (-3), 2) := by decide +kernel
theorem dX12_states_16 : decode cX12_states 16 = .ok (.ireturn, 1) := by decide +kernel
set_option maxRecDepth 20000 in
theorem ggX12_times_X12_append : GoodIn wsX12_times wsX12_append := goodIn_r _ [6, 1, 7, 18, 19, 20, 21, 22, 23, 24, 25, 26, 27, 28, 29, 30, 31, 32, 33, 34, 35, 36, 37, 38, 39, 40, 41, 42, 43, 44, 45, 46, 47, 48, 49, 50, 51] (by decide +kernel) (by decide +kernel)
set_option maxRecDepth 20000 in
theorem gX12_times_X12_append : GoodIn wsX12_times (wsV RX12 255 RX12 yX12_append wsX12_append) := goodIn_app (goodIn_of _ (by decide +kernel)) ggX12_times_X12_append
set_option maxRecDepth 20000 in
theorem ggX12_times_X12_reduceAt : GoodIn wsX12_times wsX12_reduceAt := goodIn_r _ [11, 1, 7, 12, 13, 14, 15, 16, 17, 18, 19, 20, 21, 22, 23, 24, 25, 26, 27, 28, 29, 30, 31, 32, 33, 34, 35, 36, 37, 38, 39, 40, 41, 42, 43, 44, 45, 46, 47, 48, 49, 50, 51] rfl (by decide +kernel)
set_option maxRecDepth 20000 in
theorem gX12_times_X12_reduceAt : GoodIn wsX12_times (wsV RX12 167 RX12 yX12_reduceAt wsX12_reduceAt) := goodIn_app (goodIn_of _ (by decide +kernel)) ggX12_times_X12_reduceAt
theorem dX12_times_0 : decode cX12_times 0 = .ok (.aload_n 0, 1) := by decide +kernel
theorem dX12_times_1 : decode cX12_times 1 = .ok (.getfield 13, 3) := by decide +kernel
theorem dX12_times_4 : decode cX12_times 4 = .ok (.iload_n 1, 1) := by decide +kernel
theorem dX12_times_5 : decode cX12_times 5 = .ok (.iaload, 1) := by decide +kernel
theorem dX12_times_6 : decode cX12_times 6 = .ok (.aload_n 0, 1) := by decide +kernel
theorem dX12_times_7 : decode cX12_times 7 = .ok (.getfield 13, 3) := by decide +kernel
theorem dX12_times_10 : decode cX12_times 10 = .ok (.iload_n 2, 1) := by decide +kernel
theorem dX12_times_11 : decode cX12_times 11 = .ok (.iaload, 1) := by decide +kernel
theorem dX12_times_12 : decode cX12_times 12 = .ok (.iadd, 1) := by decide +kernel
theorem dX12_times_13 : decode cX12_times 13 = .ok (.bipush 60, 2) := by decide +kernel
theorem dX12_times_15 : decode cX12_times 15 = .ok (.if_icmp .le 5, 3) := by decide +kernel
theorem dX12_times_18 : decode cX12_times 18 = .ok (.iconst 0, 1) := by decide +kernel
theorem dX12_times_19 : decode cX12_times 19 = .ok (.ireturn, 1) := by decide +kernel
theorem dX12_times_20 : decode cX12_times 20 = .ok (.aload_n 0, 1) := by decide +kernel
theorem dX12_times_21 : decode cX12_times 21 = .ok (.iload_n 1, 1) := by decide +kernel
theorem dX12_times_22 : decode cX12_times 22 = .ok (.iload_n 2, 1) := by decide +kernel
theorem dX12_times_23 : decode cX12_times 23 = .ok (.invokevirtual 255, 3) := by decide +kernel
theorem dX12_times_26 : decode cX12_times 26 = .ok (.aload_n 0, 1) := by decide +kernel
theorem dX12_times_27 : decode cX12_times 27 = .ok (.iload_n 1, 1) := by decide +kernel
theorem dX12_times_28 : decode cX12_times 28 = .ok (.invokevirtual 167, 3) := by decide +kernel
theorem dX12_times_31 : decode cX12_times 31 = .ok (.iconst 1, 1) := by decide +kernel
theorem dX12_times_32 : decode cX12_times 32 = .ok (.ireturn, 1) := by decide +kernel
theorem dX12_total_0 : decode cX12_total 0 = .ok (.iload_n 1, 1) := by decide +kernel
theorem dX12_total_1 : decode cX12_total 1 = .ok (.tableswitch 67 0 3 #[31, 36, 41, 59], 31) := by decide +kernel
theorem dX12_total_32 : decode cX12_total 32 = .ok (.aload_n 0, 1) := by decide +kernel
theorem dX12_total_33 : decode cX12_total 33 = .ok (.getfield 7, 3) := by decide +kernel
theorem dX12_total_36 : decode cX12_total 36 = .ok (.ireturn, 1) := by decide +kernel
theorem dX12_total_37 : decode cX12_total 37 = .ok (.aload_n 0, 1) := by decide +kernel
theorem dX12_total_38 : decode cX12_total 38 = .ok (.getfield 99, 3) := by decide +kernel
theorem dX12_total_41 : decode cX12_total 41 = .ok (.ireturn, 1) := by decide +kernel
theorem dX12_total_42 : decode cX12_total 42 = .ok (.aload_n 0, 1) := by decide +kernel
theorem dX12_total_43 : decode cX12_total 43 = .ok (.getfield 26, 3) := by decide +kernel
theorem dX12_total_46 : decode cX12_total 46 = .ok (.bipush (-9), 2) := by decide +kernel
theorem dX12_total_48 : decode cX12_total 48 = .ok (.if_icmp .ne 7, 3) := by decide +kernel
theorem dX12_total_51 : decode cX12_total 51 = .ok (.iconst 0, 1) := by decide +kernel
theorem dX12_total_52 : decode cX12_total 52 = .ok (.goto 7, 3) := by decide +kernel
theorem dX12_total_55 : decode cX12_total 55 = .ok (.aload_n 0, 1) := by decide +kernel
theorem dX12_total_56 : decode cX12_total 56 = .ok (.getfield 139, 3) := by decide +kernel
theorem dX12_total_59 : decode cX12_total 59 = .ok (.ireturn, 1) := by decide +kernel
theorem dX12_total_60 : decode cX12_total 60 = .ok (.aload_n 0, 1) := by decide +kernel
theorem dX12_total_61 : decode cX12_total 61 = .ok (.getfield 13, 3) := by decide +kernel
theorem dX12_total_64 : decode cX12_total 64 = .ok (.bipush 8, 2) := by decide +kernel
theorem dX12_total_66 : decode cX12_total 66 = .ok (.iaload, 1) := by decide +kernel
theorem dX12_total_67 : decode cX12_total 67 = .ok (.ireturn, 1) := by decide +kernel
theorem dX12_total_68 : decode cX12_total 68 = .ok (.bipush (-2), 2) := by decide +kernel
theorem dX12_total_70 : decode cX12_total 70 = .ok (.ireturn, 1) := by decide +kernel
set_option maxRecDepth 20000 in
theorem ggX12_withinHold_X12_stands : GoodIn wsX12_withinHold wsX12_stands := goodIn_r _ [10, 1, 5, 31, 32, 33, 34, 35, 36, 37, 38, 39, 40, 41, 42, 43, 44, 45, 46, 47, 48, 49, 50, 51, 52, 53, 54, 55, 56, 57, 58, 59, 60, 61, 62, 63, 64] (by decide +kernel) (by decide +kernel)
set_option maxRecDepth 20000 in
theorem gX12_withinHold_X12_stands : GoodIn wsX12_withinHold (wsV RX12 185 RX12 yX12_stands wsX12_stands) := goodIn_app (goodIn_of _ (by decide +kernel)) ggX12_withinHold_X12_stands
set_option maxRecDepth 20000 in
theorem ggX12_withinHold_X12_put : GoodIn wsX12_withinHold wsX12_put := goodIn_r _ [14, 15, 2, 31, 32, 33, 34, 35, 36, 37, 38, 39, 40, 41, 42, 43, 44, 45, 46, 47, 48, 49, 50, 51, 52, 53, 54, 55, 56, 57, 58, 59, 60, 61, 62, 63, 64] (by decide +kernel) (by decide +kernel)
set_option maxRecDepth 20000 in
theorem gX12_withinHold_X12_put : GoodIn wsX12_withinHold (wsV RX12 174 RX12 yX12_put wsX12_put) := goodIn_app (goodIn_of _ (by decide +kernel)) ggX12_withinHold_X12_put
set_option maxRecDepth 20000 in
theorem ggX12_withinHold_X12_meets : GoodIn wsX12_withinHold wsX12_meets := goodIn_r _ [19, 20, 21, 22, 9, 23, 2, 15, 24, 25, 26, 1, 4, 3, 27, 28, 29, 30, 31, 32, 33, 34, 35, 36, 37, 38, 39, 40, 41, 42, 43, 44, 45, 46, 47, 48, 49, 50, 51, 52, 53, 54, 55, 56, 57, 58, 59, 60, 61, 62, 63, 64] rfl (by decide +kernel)
set_option maxRecDepth 20000 in
theorem gX12_withinHold_X12_meets : GoodIn wsX12_withinHold (wsV RX12 178 RX12 yX12_meets wsX12_meets) := goodIn_app (goodIn_of _ (by decide +kernel)) ggX12_withinHold_X12_meets
theorem dX12_withinHold_0 : decode cX12_withinHold 0 = .ok (.iconst 0, 1) := by decide +kernel
theorem dX12_withinHold_1 : decode cX12_withinHold 1 = .ok (.istore_n 3, 1) := by decide +kernel
theorem dX12_withinHold_2 : decode cX12_withinHold 2 = .ok (.iload_n 1, 1) := by decide +kernel
theorem dX12_withinHold_3 : decode cX12_withinHold 3 = .ok (.iload_n 2, 1) := by decide +kernel
theorem dX12_withinHold_4 : decode cX12_withinHold 4 = .ok (.if_icmp .eq 158, 3) := by decide +kernel
theorem dX12_withinHold_7 : decode cX12_withinHold 7 = .ok (.iload_n 3, 1) := by decide +kernel
theorem dX12_withinHold_8 : decode cX12_withinHold 8 = .ok (.aload_n 0, 1) := by decide +kernel
theorem dX12_withinHold_9 : decode cX12_withinHold 9 = .ok (.getfield 38, 3) := by decide +kernel
theorem dX12_withinHold_12 : decode cX12_withinHold 12 = .ok (.iload_n 2, 1) := by decide +kernel
theorem dX12_withinHold_13 : decode cX12_withinHold 13 = .ok (.iaload, 1) := by decide +kernel
theorem dX12_withinHold_14 : decode cX12_withinHold 14 = .ok (.iadd, 1) := by decide +kernel
theorem dX12_withinHold_15 : decode cX12_withinHold 15 = .ok (.aload_n 0, 1) := by decide +kernel
theorem dX12_withinHold_16 : decode cX12_withinHold 16 = .ok (.getfield 38, 3) := by decide +kernel
theorem dX12_withinHold_19 : decode cX12_withinHold 19 = .ok (.iload_n 1, 1) := by decide +kernel
theorem dX12_withinHold_20 : decode cX12_withinHold 20 = .ok (.iaload, 1) := by decide +kernel
theorem dX12_withinHold_21 : decode cX12_withinHold 21 = .ok (.if_icmp .gt 141, 3) := by decide +kernel
theorem dX12_withinHold_24 : decode cX12_withinHold 24 = .ok (.aload_n 0, 1) := by decide +kernel
theorem dX12_withinHold_25 : decode cX12_withinHold 25 = .ok (.iload_n 1, 1) := by decide +kernel
theorem dX12_withinHold_26 : decode cX12_withinHold 26 = .ok (.iload_n 2, 1) := by decide +kernel
theorem dX12_withinHold_27 : decode cX12_withinHold 27 = .ok (.iload_n 3, 1) := by decide +kernel
theorem dX12_withinHold_28 : decode cX12_withinHold 28 = .ok (.invokevirtual 185, 3) := by decide +kernel
theorem dX12_withinHold_31 : decode cX12_withinHold 31 = .ok (.ifCond .eq 125, 3) := by decide +kernel
theorem dX12_withinHold_34 : decode cX12_withinHold 34 = .ok (.aload_n 0, 1) := by decide +kernel
theorem dX12_withinHold_35 : decode cX12_withinHold 35 = .ok (.getfield 13, 3) := by decide +kernel
theorem dX12_withinHold_38 : decode cX12_withinHold 38 = .ok (.bipush 9, 2) := by decide +kernel
theorem dX12_withinHold_40 : decode cX12_withinHold 40 = .ok (.iconst 0, 1) := by decide +kernel
theorem dX12_withinHold_41 : decode cX12_withinHold 41 = .ok (.iastore, 1) := by decide +kernel
theorem dX12_withinHold_42 : decode cX12_withinHold 42 = .ok (.aload_n 0, 1) := by decide +kernel
theorem dX12_withinHold_43 : decode cX12_withinHold 43 = .ok (.bipush 9, 2) := by decide +kernel
theorem dX12_withinHold_45 : decode cX12_withinHold 45 = .ok (.aload_n 0, 1) := by decide +kernel
theorem dX12_withinHold_46 : decode cX12_withinHold 46 = .ok (.getfield 47, 3) := by decide +kernel
theorem dX12_withinHold_49 : decode cX12_withinHold 49 = .ok (.bipush 24, 2) := by decide +kernel
theorem dX12_withinHold_51 : decode cX12_withinHold 51 = .ok (.iload_n 1, 1) := by decide +kernel
theorem dX12_withinHold_52 : decode cX12_withinHold 52 = .ok (.imul, 1) := by decide +kernel
theorem dX12_withinHold_53 : decode cX12_withinHold 53 = .ok (.aload_n 0, 1) := by decide +kernel
theorem dX12_withinHold_54 : decode cX12_withinHold 54 = .ok (.getfield 44, 3) := by decide +kernel
theorem dX12_withinHold_57 : decode cX12_withinHold 57 = .ok (.iload_n 1, 1) := by decide +kernel
theorem dX12_withinHold_58 : decode cX12_withinHold 58 = .ok (.iaload, 1) := by decide +kernel
theorem dX12_withinHold_59 : decode cX12_withinHold 59 = .ok (.invokevirtual 174, 3) := by decide +kernel
theorem dX12_withinHold_62 : decode cX12_withinHold 62 = .ok (.aload_n 0, 1) := by decide +kernel
theorem dX12_withinHold_63 : decode cX12_withinHold 63 = .ok (.getfield 13, 3) := by decide +kernel
theorem dX12_withinHold_66 : decode cX12_withinHold 66 = .ok (.bipush 10, 2) := by decide +kernel
theorem dX12_withinHold_68 : decode cX12_withinHold 68 = .ok (.iconst 0, 1) := by decide +kernel
theorem dX12_withinHold_69 : decode cX12_withinHold 69 = .ok (.iastore, 1) := by decide +kernel
theorem dX12_withinHold_70 : decode cX12_withinHold 70 = .ok (.aload_n 0, 1) := by decide +kernel
theorem dX12_withinHold_71 : decode cX12_withinHold 71 = .ok (.bipush 10, 2) := by decide +kernel
theorem dX12_withinHold_73 : decode cX12_withinHold 73 = .ok (.aload_n 0, 1) := by decide +kernel
theorem dX12_withinHold_74 : decode cX12_withinHold 74 = .ok (.getfield 41, 3) := by decide +kernel
theorem dX12_withinHold_77 : decode cX12_withinHold 77 = .ok (.bipush 24, 2) := by decide +kernel
theorem dX12_withinHold_79 : decode cX12_withinHold 79 = .ok (.iload_n 1, 1) := by decide +kernel
theorem dX12_withinHold_80 : decode cX12_withinHold 80 = .ok (.imul, 1) := by decide +kernel
theorem dX12_withinHold_81 : decode cX12_withinHold 81 = .ok (.iload_n 3, 1) := by decide +kernel
theorem dX12_withinHold_82 : decode cX12_withinHold 82 = .ok (.invokevirtual 174, 3) := by decide +kernel
theorem dX12_withinHold_85 : decode cX12_withinHold 85 = .ok (.aload_n 0, 1) := by decide +kernel
theorem dX12_withinHold_86 : decode cX12_withinHold 86 = .ok (.bipush 10, 2) := by decide +kernel
theorem dX12_withinHold_88 : decode cX12_withinHold 88 = .ok (.aload_n 0, 1) := by decide +kernel
theorem dX12_withinHold_89 : decode cX12_withinHold 89 = .ok (.getfield 47, 3) := by decide +kernel
theorem dX12_withinHold_92 : decode cX12_withinHold 92 = .ok (.bipush 24, 2) := by decide +kernel
theorem dX12_withinHold_94 : decode cX12_withinHold 94 = .ok (.iload_n 2, 1) := by decide +kernel
theorem dX12_withinHold_95 : decode cX12_withinHold 95 = .ok (.imul, 1) := by decide +kernel
theorem dX12_withinHold_96 : decode cX12_withinHold 96 = .ok (.aload_n 0, 1) := by decide +kernel
theorem dX12_withinHold_97 : decode cX12_withinHold 97 = .ok (.getfield 44, 3) := by decide +kernel
theorem dX12_withinHold_100 : decode cX12_withinHold 100 = .ok (.iload_n 2, 1) := by decide +kernel
theorem dX12_withinHold_101 : decode cX12_withinHold 101 = .ok (.iaload, 1) := by decide +kernel
theorem dX12_withinHold_102 : decode cX12_withinHold 102 = .ok (.invokevirtual 174, 3) := by decide +kernel
theorem dX12_withinHold_105 : decode cX12_withinHold 105 = .ok (.aload_n 0, 1) := by decide +kernel
theorem dX12_withinHold_106 : decode cX12_withinHold 106 = .ok (.bipush 10, 2) := by decide +kernel
theorem dX12_withinHold_108 : decode cX12_withinHold 108 = .ok (.aload_n 0, 1) := by decide +kernel
theorem dX12_withinHold_109 : decode cX12_withinHold 109 = .ok (.getfield 41, 3) := by decide +kernel
theorem dX12_withinHold_112 : decode cX12_withinHold 112 = .ok (.bipush 24, 2) := by decide +kernel
theorem dX12_withinHold_114 : decode cX12_withinHold 114 = .ok (.iload_n 1, 1) := by decide +kernel
theorem dX12_withinHold_115 : decode cX12_withinHold 115 = .ok (.imul, 1) := by decide +kernel
theorem dX12_withinHold_116 : decode cX12_withinHold 116 = .ok (.iload_n 3, 1) := by decide +kernel
theorem dX12_withinHold_117 : decode cX12_withinHold 117 = .ok (.iadd, 1) := by decide +kernel
theorem dX12_withinHold_118 : decode cX12_withinHold 118 = .ok (.aload_n 0, 1) := by decide +kernel
theorem dX12_withinHold_119 : decode cX12_withinHold 119 = .ok (.getfield 38, 3) := by decide +kernel
theorem dX12_withinHold_122 : decode cX12_withinHold 122 = .ok (.iload_n 2, 1) := by decide +kernel
theorem dX12_withinHold_123 : decode cX12_withinHold 123 = .ok (.iaload, 1) := by decide +kernel
theorem dX12_withinHold_124 : decode cX12_withinHold 124 = .ok (.iadd, 1) := by decide +kernel
theorem dX12_withinHold_125 : decode cX12_withinHold 125 = .ok (.aload_n 0, 1) := by decide +kernel
theorem dX12_withinHold_126 : decode cX12_withinHold 126 = .ok (.getfield 38, 3) := by decide +kernel
theorem dX12_withinHold_129 : decode cX12_withinHold 129 = .ok (.iload_n 1, 1) := by decide +kernel
theorem dX12_withinHold_130 : decode cX12_withinHold 130 = .ok (.iaload, 1) := by decide +kernel
theorem dX12_withinHold_131 : decode cX12_withinHold 131 = .ok (.iload_n 3, 1) := by decide +kernel
theorem dX12_withinHold_132 : decode cX12_withinHold 132 = .ok (.isub, 1) := by decide +kernel
theorem dX12_withinHold_133 : decode cX12_withinHold 133 = .ok (.aload_n 0, 1) := by decide +kernel
theorem dX12_withinHold_134 : decode cX12_withinHold 134 = .ok (.getfield 38, 3) := by decide +kernel
theorem dX12_withinHold_137 : decode cX12_withinHold 137 = .ok (.iload_n 2, 1) := by decide +kernel
theorem dX12_withinHold_138 : decode cX12_withinHold 138 = .ok (.iaload, 1) := by decide +kernel
theorem dX12_withinHold_139 : decode cX12_withinHold 139 = .ok (.isub, 1) := by decide +kernel
theorem dX12_withinHold_140 : decode cX12_withinHold 140 = .ok (.invokevirtual 174, 3) := by decide +kernel
theorem dX12_withinHold_143 : decode cX12_withinHold 143 = .ok (.aload_n 0, 1) := by decide +kernel
theorem dX12_withinHold_144 : decode cX12_withinHold 144 = .ok (.bipush 9, 2) := by decide +kernel
theorem dX12_withinHold_146 : decode cX12_withinHold 146 = .ok (.bipush 10, 2) := by decide +kernel
theorem dX12_withinHold_148 : decode cX12_withinHold 148 = .ok (.invokevirtual 178, 3) := by decide +kernel
theorem dX12_withinHold_151 : decode cX12_withinHold 151 = .ok (.ifCond .ne 5, 3) := by decide +kernel
theorem dX12_withinHold_154 : decode cX12_withinHold 154 = .ok (.iconst 0, 1) := by decide +kernel
theorem dX12_withinHold_155 : decode cX12_withinHold 155 = .ok (.ireturn, 1) := by decide +kernel
theorem dX12_withinHold_156 : decode cX12_withinHold 156 = .ok (.iinc 3 1, 3) := by decide +kernel
theorem dX12_withinHold_159 : decode cX12_withinHold 159 = .ok (.goto (-157), 3) := by decide +kernel
theorem dX12_withinHold_162 : decode cX12_withinHold 162 = .ok (.iconst 1, 1) := by decide +kernel
theorem dX12_withinHold_163 : decode cX12_withinHold 163 = .ok (.ireturn, 1) := by decide +kernel
set_option maxRecDepth 20000 in
theorem ggX12_withoutFirst_X12_powerOf : GoodIn wsX12_withoutFirst wsX12_powerOf := goodIn_r _ [8, 1, 9, 10, 11, 12, 13, 14, 15, 16, 17, 18, 19, 20, 21, 22, 23, 24, 25, 26, 27, 28, 29, 30, 31, 32, 33, 34, 35, 36, 37, 38, 39, 40, 41, 42] (by decide +kernel) (by decide +kernel)
set_option maxRecDepth 20000 in
theorem gX12_withoutFirst_X12_powerOf : GoodIn wsX12_withoutFirst (wsV RX12 129 RX12 yX12_powerOf wsX12_powerOf) := goodIn_app (goodIn_of _ (by decide +kernel)) ggX12_withoutFirst_X12_powerOf
theorem dX12_withoutFirst_0 : decode cX12_withoutFirst 0 = .ok (.aload_n 0, 1) := by decide +kernel
theorem dX12_withoutFirst_1 : decode cX12_withoutFirst 1 = .ok (.getfield 7, 3) := by decide +kernel
theorem dX12_withoutFirst_4 : decode cX12_withoutFirst 4 = .ok (.iconst 1, 1) := by decide +kernel
theorem dX12_withoutFirst_5 : decode cX12_withoutFirst 5 = .ok (.if_icmp .ne 9, 3) := by decide +kernel
theorem dX12_withoutFirst_8 : decode cX12_withoutFirst 8 = .ok (.iload_n 1, 1) := by decide +kernel
theorem dX12_withoutFirst_9 : decode cX12_withoutFirst 9 = .ok (.iconst 1, 1) := by decide +kernel
theorem dX12_withoutFirst_10 : decode cX12_withoutFirst 10 = .ok (.isub, 1) := by decide +kernel
theorem dX12_withoutFirst_11 : decode cX12_withoutFirst 11 = .ok (.goto 37, 3) := by decide +kernel
theorem dX12_withoutFirst_14 : decode cX12_withoutFirst 14 = .ok (.aload_n 0, 1) := by decide +kernel
theorem dX12_withoutFirst_15 : decode cX12_withoutFirst 15 = .ok (.getfield 29, 3) := by decide +kernel
theorem dX12_withoutFirst_18 : decode cX12_withoutFirst 18 = .ok (.aload_n 0, 1) := by decide +kernel
theorem dX12_withoutFirst_19 : decode cX12_withoutFirst 19 = .ok (.getfield 119, 3) := by decide +kernel
theorem dX12_withoutFirst_22 : decode cX12_withoutFirst 22 = .ok (.iconst 1, 1) := by decide +kernel
theorem dX12_withoutFirst_23 : decode cX12_withoutFirst 23 = .ok (.isub, 1) := by decide +kernel
theorem dX12_withoutFirst_24 : decode cX12_withoutFirst 24 = .ok (.iaload, 1) := by decide +kernel
theorem dX12_withoutFirst_25 : decode cX12_withoutFirst 25 = .ok (.iload_n 1, 1) := by decide +kernel
theorem dX12_withoutFirst_26 : decode cX12_withoutFirst 26 = .ok (.aload_n 0, 1) := by decide +kernel
theorem dX12_withoutFirst_27 : decode cX12_withoutFirst 27 = .ok (.getfield 29, 3) := by decide +kernel
theorem dX12_withoutFirst_30 : decode cX12_withoutFirst 30 = .ok (.aload_n 0, 1) := by decide +kernel
theorem dX12_withoutFirst_31 : decode cX12_withoutFirst 31 = .ok (.getfield 119, 3) := by decide +kernel
theorem dX12_withoutFirst_34 : decode cX12_withoutFirst 34 = .ok (.iaload, 1) := by decide +kernel
theorem dX12_withoutFirst_35 : decode cX12_withoutFirst 35 = .ok (.isub, 1) := by decide +kernel
theorem dX12_withoutFirst_36 : decode cX12_withoutFirst 36 = .ok (.aload_n 0, 1) := by decide +kernel
theorem dX12_withoutFirst_37 : decode cX12_withoutFirst 37 = .ok (.aload_n 0, 1) := by decide +kernel
theorem dX12_withoutFirst_38 : decode cX12_withoutFirst 38 = .ok (.getfield 119, 3) := by decide +kernel
theorem dX12_withoutFirst_41 : decode cX12_withoutFirst 41 = .ok (.iconst 1, 1) := by decide +kernel
theorem dX12_withoutFirst_42 : decode cX12_withoutFirst 42 = .ok (.isub, 1) := by decide +kernel
theorem dX12_withoutFirst_43 : decode cX12_withoutFirst 43 = .ok (.invokevirtual 129, 3) := by decide +kernel
theorem dX12_withoutFirst_46 : decode cX12_withoutFirst 46 = .ok (.irem, 1) := by decide +kernel
theorem dX12_withoutFirst_47 : decode cX12_withoutFirst 47 = .ok (.iadd, 1) := by decide +kernel
theorem dX12_withoutFirst_48 : decode cX12_withoutFirst 48 = .ok (.ireturn, 1) := by decide +kernel
theorem dX12_withoutLast_0 : decode cX12_withoutLast 0 = .ok (.aload_n 0, 1) := by decide +kernel
theorem dX12_withoutLast_1 : decode cX12_withoutLast 1 = .ok (.getfield 7, 3) := by decide +kernel
theorem dX12_withoutLast_4 : decode cX12_withoutLast 4 = .ok (.iconst 1, 1) := by decide +kernel
theorem dX12_withoutLast_5 : decode cX12_withoutLast 5 = .ok (.if_icmp .ne 9, 3) := by decide +kernel
theorem dX12_withoutLast_8 : decode cX12_withoutLast 8 = .ok (.iload_n 1, 1) := by decide +kernel
theorem dX12_withoutLast_9 : decode cX12_withoutLast 9 = .ok (.iconst 1, 1) := by decide +kernel
theorem dX12_withoutLast_10 : decode cX12_withoutLast 10 = .ok (.isub, 1) := by decide +kernel
theorem dX12_withoutLast_11 : decode cX12_withoutLast 11 = .ok (.goto 31, 3) := by decide +kernel
theorem dX12_withoutLast_14 : decode cX12_withoutLast 14 = .ok (.aload_n 0, 1) := by decide +kernel
theorem dX12_withoutLast_15 : decode cX12_withoutLast 15 = .ok (.getfield 29, 3) := by decide +kernel
theorem dX12_withoutLast_18 : decode cX12_withoutLast 18 = .ok (.aload_n 0, 1) := by decide +kernel
theorem dX12_withoutLast_19 : decode cX12_withoutLast 19 = .ok (.getfield 119, 3) := by decide +kernel
theorem dX12_withoutLast_22 : decode cX12_withoutLast 22 = .ok (.iconst 1, 1) := by decide +kernel
theorem dX12_withoutLast_23 : decode cX12_withoutLast 23 = .ok (.isub, 1) := by decide +kernel
theorem dX12_withoutLast_24 : decode cX12_withoutLast 24 = .ok (.iaload, 1) := by decide +kernel
theorem dX12_withoutLast_25 : decode cX12_withoutLast 25 = .ok (.iload_n 1, 1) := by decide +kernel
theorem dX12_withoutLast_26 : decode cX12_withoutLast 26 = .ok (.aload_n 0, 1) := by decide +kernel
theorem dX12_withoutLast_27 : decode cX12_withoutLast 27 = .ok (.getfield 29, 3) := by decide +kernel
theorem dX12_withoutLast_30 : decode cX12_withoutLast 30 = .ok (.aload_n 0, 1) := by decide +kernel
theorem dX12_withoutLast_31 : decode cX12_withoutLast 31 = .ok (.getfield 119, 3) := by decide +kernel
theorem dX12_withoutLast_34 : decode cX12_withoutLast 34 = .ok (.iaload, 1) := by decide +kernel
theorem dX12_withoutLast_35 : decode cX12_withoutLast 35 = .ok (.isub, 1) := by decide +kernel
theorem dX12_withoutLast_36 : decode cX12_withoutLast 36 = .ok (.aload_n 0, 1) := by decide +kernel
theorem dX12_withoutLast_37 : decode cX12_withoutLast 37 = .ok (.getfield 7, 3) := by decide +kernel
theorem dX12_withoutLast_40 : decode cX12_withoutLast 40 = .ok (.idiv, 1) := by decide +kernel
theorem dX12_withoutLast_41 : decode cX12_withoutLast 41 = .ok (.iadd, 1) := by decide +kernel
theorem dX12_withoutLast_42 : decode cX12_withoutLast 42 = .ok (.ireturn, 1) := by decide +kernel
theorem dX12_wordsTo_0 : decode cX12_wordsTo 0 = .ok (.lconst 0, 1) := by decide +kernel
theorem dX12_wordsTo_1 : decode cX12_wordsTo 1 = .ok (.lstore_n 2, 1) := by decide +kernel
theorem dX12_wordsTo_2 : decode cX12_wordsTo 2 = .ok (.lconst 1, 1) := by decide +kernel
theorem dX12_wordsTo_3 : decode cX12_wordsTo 3 = .ok (.lstore 4, 2) := by decide +kernel
theorem dX12_wordsTo_5 : decode cX12_wordsTo 5 = .ok (.iconst 0, 1) := by decide +kernel
theorem dX12_wordsTo_6 : decode cX12_wordsTo 6 = .ok (.istore 6, 2) := by decide +kernel
theorem dX12_wordsTo_8 : decode cX12_wordsTo 8 = .ok (.iload 6, 2) := by decide +kernel
theorem dX12_wordsTo_10 : decode cX12_wordsTo 10 = .ok (.iload_n 1, 1) := by decide +kernel
theorem dX12_wordsTo_11 : decode cX12_wordsTo 11 = .ok (.if_icmp .gt 32, 3) := by decide +kernel
theorem dX12_wordsTo_14 : decode cX12_wordsTo 14 = .ok (.lload_n 2, 1) := by decide +kernel
theorem dX12_wordsTo_15 : decode cX12_wordsTo 15 = .ok (.ldc2_w 110, 3) := by decide +kernel
theorem dX12_wordsTo_18 : decode cX12_wordsTo 18 = .ok (.lcmp, 1) := by decide +kernel
theorem dX12_wordsTo_19 : decode cX12_wordsTo 19 = .ok (.ifCond .gt 24, 3) := by decide +kernel
theorem dX12_wordsTo_22 : decode cX12_wordsTo 22 = .ok (.lload_n 2, 1) := by decide +kernel
theorem dX12_wordsTo_23 : decode cX12_wordsTo 23 = .ok (.lload 4, 2) := by decide +kernel
theorem dX12_wordsTo_25 : decode cX12_wordsTo 25 = .ok (.ladd, 1) := by decide +kernel
theorem dX12_wordsTo_26 : decode cX12_wordsTo 26 = .ok (.lstore_n 2, 1) := by decide +kernel
theorem dX12_wordsTo_27 : decode cX12_wordsTo 27 = .ok (.lload 4, 2) := by decide +kernel
theorem dX12_wordsTo_29 : decode cX12_wordsTo 29 = .ok (.aload_n 0, 1) := by decide +kernel
theorem dX12_wordsTo_30 : decode cX12_wordsTo 30 = .ok (.getfield 7, 3) := by decide +kernel
theorem dX12_wordsTo_33 : decode cX12_wordsTo 33 = .ok (.i2l, 1) := by decide +kernel
theorem dX12_wordsTo_34 : decode cX12_wordsTo 34 = .ok (.lmul, 1) := by decide +kernel
theorem dX12_wordsTo_35 : decode cX12_wordsTo 35 = .ok (.lstore 4, 2) := by decide +kernel
theorem dX12_wordsTo_37 : decode cX12_wordsTo 37 = .ok (.iinc 6 1, 3) := by decide +kernel
theorem dX12_wordsTo_40 : decode cX12_wordsTo 40 = .ok (.goto (-32), 3) := by decide +kernel
theorem dX12_wordsTo_43 : decode cX12_wordsTo 43 = .ok (.lload_n 2, 1) := by decide +kernel
theorem dX12_wordsTo_44 : decode cX12_wordsTo 44 = .ok (.ldc2_w 110, 3) := by decide +kernel
theorem dX12_wordsTo_47 : decode cX12_wordsTo 47 = .ok (.lcmp, 1) := by decide +kernel
theorem dX12_wordsTo_48 : decode cX12_wordsTo 48 = .ok (.ifCond .le 9, 3) := by decide +kernel
theorem dX12_wordsTo_51 : decode cX12_wordsTo 51 = .ok (.sipush 10001, 3) := by decide +kernel
theorem dX12_wordsTo_54 : decode cX12_wordsTo 54 = .ok (.goto 5, 3) := by decide +kernel
theorem dX12_wordsTo_57 : decode cX12_wordsTo 57 = .ok (.lload_n 2, 1) := by decide +kernel
theorem dX12_wordsTo_58 : decode cX12_wordsTo 58 = .ok (.l2i, 1) := by decide +kernel
theorem dX12_wordsTo_59 : decode cX12_wordsTo 59 = .ok (.ireturn, 1) := by decide +kernel
theorem dX1_begin_0 : decode cX1_begin 0 = .ok (.aload_n 0, 1) := by decide +kernel
theorem dX1_begin_1 : decode cX1_begin 1 = .ok (.iload_n 1, 1) := by decide +kernel
theorem dX1_begin_2 : decode cX1_begin 2 = .ok (.aload_n 0, 1) := by decide +kernel
theorem dX1_begin_3 : decode cX1_begin 3 = .ok (.getfield 9, 3) := by decide +kernel
theorem dX1_begin_6 : decode cX1_begin 6 = .ok (.arraylength, 1) := by decide +kernel
theorem dX1_begin_7 : decode cX1_begin 7 = .ok (.invokestatic 15, 3) := by decide +kernel
theorem dX1_begin_10 : decode cX1_begin 10 = .ok (.putfield 21, 3) := by decide +kernel
theorem dX1_begin_13 : decode cX1_begin 13 = .ok (.iconst 0, 1) := by decide +kernel
theorem dX1_begin_14 : decode cX1_begin 14 = .ok (.istore_n 2, 1) := by decide +kernel
theorem dX1_begin_15 : decode cX1_begin 15 = .ok (.iload_n 2, 1) := by decide +kernel
theorem dX1_begin_16 : decode cX1_begin 16 = .ok (.aload_n 0, 1) := by decide +kernel
theorem dX1_begin_17 : decode cX1_begin 17 = .ok (.getfield 21, 3) := by decide +kernel
theorem dX1_begin_20 : decode cX1_begin 20 = .ok (.if_icmp .ge 16, 3) := by decide +kernel
theorem dX1_begin_23 : decode cX1_begin 23 = .ok (.aload_n 0, 1) := by decide +kernel
theorem dX1_begin_24 : decode cX1_begin 24 = .ok (.getfield 9, 3) := by decide +kernel
theorem dX1_begin_27 : decode cX1_begin 27 = .ok (.iload_n 2, 1) := by decide +kernel
theorem dX1_begin_28 : decode cX1_begin 28 = .ok (.iload_n 2, 1) := by decide +kernel
theorem dX1_begin_29 : decode cX1_begin 29 = .ok (.iastore, 1) := by decide +kernel
theorem dX1_begin_30 : decode cX1_begin 30 = .ok (.iinc 2 1, 3) := by decide +kernel
theorem dX1_begin_33 : decode cX1_begin 33 = .ok (.goto (-18), 3) := by decide +kernel
theorem dX1_begin_36 : decode cX1_begin 36 = .ok (.return_, 1) := by decide +kernel
theorem dX1_init_0 : decode cX1_init 0 = .ok (.aload_n 0, 1) := by decide +kernel
theorem dX1_init_1 : decode cX1_init 1 = .ok (.invokespecial 3, 3) := by decide +kernel
theorem dX1_init_4 : decode cX1_init 4 = .ok (.aload_n 0, 1) := by decide +kernel
theorem dX1_init_5 : decode cX1_init 5 = .ok (.sipush 10000, 3) := by decide +kernel
theorem dX1_init_8 : decode cX1_init 8 = .ok (.newarray .int, 2) := by decide +kernel
theorem dX1_init_10 : decode cX1_init 10 = .ok (.putfield 9, 3) := by decide +kernel
theorem dX1_init_13 : decode cX1_init 13 = .ok (.return_, 1) := by decide +kernel
theorem dX1_isLeast_0 : decode cX1_isLeast 0 = .ok (.iload_n 1, 1) := by decide +kernel
theorem dX1_isLeast_1 : decode cX1_isLeast 1 = .ok (.ifCond .lt 25, 3) := by decide +kernel
theorem dX1_isLeast_4 : decode cX1_isLeast 4 = .ok (.iload_n 1, 1) := by decide +kernel
theorem dX1_isLeast_5 : decode cX1_isLeast 5 = .ok (.aload_n 0, 1) := by decide +kernel
theorem dX1_isLeast_6 : decode cX1_isLeast 6 = .ok (.getfield 21, 3) := by decide +kernel
theorem dX1_isLeast_9 : decode cX1_isLeast 9 = .ok (.if_icmp .ge 17, 3) := by decide +kernel
theorem dX1_isLeast_12 : decode cX1_isLeast 12 = .ok (.aload_n 0, 1) := by decide +kernel
theorem dX1_isLeast_13 : decode cX1_isLeast 13 = .ok (.getfield 9, 3) := by decide +kernel
theorem dX1_isLeast_16 : decode cX1_isLeast 16 = .ok (.iload_n 1, 1) := by decide +kernel
theorem dX1_isLeast_17 : decode cX1_isLeast 17 = .ok (.iaload, 1) := by decide +kernel
theorem dX1_isLeast_18 : decode cX1_isLeast 18 = .ok (.iload_n 1, 1) := by decide +kernel
theorem dX1_isLeast_19 : decode cX1_isLeast 19 = .ok (.if_icmp .ne 7, 3) := by decide +kernel
theorem dX1_isLeast_22 : decode cX1_isLeast 22 = .ok (.iconst 1, 1) := by decide +kernel
theorem dX1_isLeast_23 : decode cX1_isLeast 23 = .ok (.goto 4, 3) := by decide +kernel
theorem dX1_isLeast_26 : decode cX1_isLeast 26 = .ok (.iconst 0, 1) := by decide +kernel
theorem dX1_isLeast_27 : decode cX1_isLeast 27 = .ok (.ireturn, 1) := by decide +kernel
