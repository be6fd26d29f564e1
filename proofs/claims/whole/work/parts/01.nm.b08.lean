set_option maxRecDepth 20000 in
theorem ggX12_keepRule_X12_root : GoodIn wsX12_keepRule wsX12_root := goodIn_r _ [12, 13, 24, 25, 26, 27, 28, 29, 30, 31, 32, 33, 34, 35, 36, 37, 38, 39, 40, 41, 42, 43, 44, 45, 46, 47, 48, 49, 50, 51, 52, 53, 54, 55, 56, 57] (by decide +kernel) (by decide +kernel)
set_option maxRecDepth 20000 in
theorem gX12_keepRule_X12_root : GoodIn wsX12_keepRule (wsV RX12 112 RX12 yX12_root wsX12_root) := goodIn_app (goodIn_of _ (by decide +kernel)) ggX12_keepRule_X12_root
set_option maxRecDepth 20000 in
theorem ggX12_keepRule_X12_layAny : GoodIn wsX12_keepRule wsX12_layAny := goodIn_r _ [17, 18, 3, 5, 19, 20, 21, 11, 22, 23, 24, 25, 26, 27, 28, 29, 30, 31, 32, 33, 34, 35, 36, 37, 38, 39, 40, 41, 42, 43, 44, 45, 46, 47, 48, 49, 50, 51, 52, 53, 54, 55, 56, 57] rfl (by decide +kernel)
set_option maxRecDepth 20000 in
theorem gX12_keepRule_X12_layAny : GoodIn wsX12_keepRule (wsV RX12 145 RX12 yX12_layAny wsX12_layAny) := goodIn_app (goodIn_of _ (by decide +kernel)) ggX12_keepRule_X12_layAny
theorem dX12_keepRule_0 : decode cX12_keepRule 0 = .ok (.aload_n 0, 1) := by decide +kernel
theorem dX12_keepRule_1 : decode cX12_keepRule 1 = .ok (.getfield 38, 3) := by decide +kernel
theorem dX12_keepRule_4 : decode cX12_keepRule 4 = .ok (.aload_n 0, 1) := by decide +kernel
theorem dX12_keepRule_5 : decode cX12_keepRule 5 = .ok (.getfield 139, 3) := by decide +kernel
theorem dX12_keepRule_8 : decode cX12_keepRule 8 = .ok (.aload_n 0, 1) := by decide +kernel
theorem dX12_keepRule_9 : decode cX12_keepRule 9 = .ok (.getfield 119, 3) := by decide +kernel
theorem dX12_keepRule_12 : decode cX12_keepRule 12 = .ok (.iastore, 1) := by decide +kernel
theorem dX12_keepRule_13 : decode cX12_keepRule 13 = .ok (.iconst 0, 1) := by decide +kernel
theorem dX12_keepRule_14 : decode cX12_keepRule 14 = .ok (.istore_n 2, 1) := by decide +kernel
theorem dX12_keepRule_15 : decode cX12_keepRule 15 = .ok (.iload_n 2, 1) := by decide +kernel
theorem dX12_keepRule_16 : decode cX12_keepRule 16 = .ok (.aload_n 0, 1) := by decide +kernel
theorem dX12_keepRule_17 : decode cX12_keepRule 17 = .ok (.getfield 119, 3) := by decide +kernel
theorem dX12_keepRule_20 : decode cX12_keepRule 20 = .ok (.if_icmp .ge 29, 3) := by decide +kernel
theorem dX12_keepRule_23 : decode cX12_keepRule 23 = .ok (.aload_n 0, 1) := by decide +kernel
theorem dX12_keepRule_24 : decode cX12_keepRule 24 = .ok (.getfield 41, 3) := by decide +kernel
theorem dX12_keepRule_27 : decode cX12_keepRule 27 = .ok (.bipush 24, 2) := by decide +kernel
theorem dX12_keepRule_29 : decode cX12_keepRule 29 = .ok (.aload_n 0, 1) := by decide +kernel
theorem dX12_keepRule_30 : decode cX12_keepRule 30 = .ok (.getfield 139, 3) := by decide +kernel
theorem dX12_keepRule_33 : decode cX12_keepRule 33 = .ok (.imul, 1) := by decide +kernel
theorem dX12_keepRule_34 : decode cX12_keepRule 34 = .ok (.iload_n 2, 1) := by decide +kernel
theorem dX12_keepRule_35 : decode cX12_keepRule 35 = .ok (.iadd, 1) := by decide +kernel
theorem dX12_keepRule_36 : decode cX12_keepRule 36 = .ok (.aload_n 0, 1) := by decide +kernel
theorem dX12_keepRule_37 : decode cX12_keepRule 37 = .ok (.getfield 35, 3) := by decide +kernel
theorem dX12_keepRule_40 : decode cX12_keepRule 40 = .ok (.iload_n 2, 1) := by decide +kernel
theorem dX12_keepRule_41 : decode cX12_keepRule 41 = .ok (.iaload, 1) := by decide +kernel
theorem dX12_keepRule_42 : decode cX12_keepRule 42 = .ok (.iastore, 1) := by decide +kernel
theorem dX12_keepRule_43 : decode cX12_keepRule 43 = .ok (.iinc 2 1, 3) := by decide +kernel
theorem dX12_keepRule_46 : decode cX12_keepRule 46 = .ok (.goto (-31), 3) := by decide +kernel
theorem dX12_keepRule_49 : decode cX12_keepRule 49 = .ok (.aload_n 0, 1) := by decide +kernel
theorem dX12_keepRule_50 : decode cX12_keepRule 50 = .ok (.aload_n 0, 1) := by decide +kernel
theorem dX12_keepRule_51 : decode cX12_keepRule 51 = .ok (.iload_n 1, 1) := by decide +kernel
theorem dX12_keepRule_52 : decode cX12_keepRule 52 = .ok (.invokevirtual 112, 3) := by decide +kernel
theorem dX12_keepRule_55 : decode cX12_keepRule 55 = .ok (.invokevirtual 145, 3) := by decide +kernel
theorem dX12_keepRule_58 : decode cX12_keepRule 58 = .ok (.aload_n 0, 1) := by decide +kernel
theorem dX12_keepRule_59 : decode cX12_keepRule 59 = .ok (.getfield 44, 3) := by decide +kernel
theorem dX12_keepRule_62 : decode cX12_keepRule 62 = .ok (.aload_n 0, 1) := by decide +kernel
theorem dX12_keepRule_63 : decode cX12_keepRule 63 = .ok (.getfield 139, 3) := by decide +kernel
theorem dX12_keepRule_66 : decode cX12_keepRule 66 = .ok (.aload_n 0, 1) := by decide +kernel
theorem dX12_keepRule_67 : decode cX12_keepRule 67 = .ok (.getfield 119, 3) := by decide +kernel
theorem dX12_keepRule_70 : decode cX12_keepRule 70 = .ok (.iastore, 1) := by decide +kernel
theorem dX12_keepRule_71 : decode cX12_keepRule 71 = .ok (.iconst 0, 1) := by decide +kernel
theorem dX12_keepRule_72 : decode cX12_keepRule 72 = .ok (.istore_n 2, 1) := by decide +kernel
theorem dX12_keepRule_73 : decode cX12_keepRule 73 = .ok (.iload_n 2, 1) := by decide +kernel
theorem dX12_keepRule_74 : decode cX12_keepRule 74 = .ok (.aload_n 0, 1) := by decide +kernel
theorem dX12_keepRule_75 : decode cX12_keepRule 75 = .ok (.getfield 119, 3) := by decide +kernel
theorem dX12_keepRule_78 : decode cX12_keepRule 78 = .ok (.if_icmp .ge 29, 3) := by decide +kernel
theorem dX12_keepRule_81 : decode cX12_keepRule 81 = .ok (.aload_n 0, 1) := by decide +kernel
theorem dX12_keepRule_82 : decode cX12_keepRule 82 = .ok (.getfield 47, 3) := by decide +kernel
theorem dX12_keepRule_85 : decode cX12_keepRule 85 = .ok (.bipush 24, 2) := by decide +kernel
theorem dX12_keepRule_87 : decode cX12_keepRule 87 = .ok (.aload_n 0, 1) := by decide +kernel
theorem dX12_keepRule_88 : decode cX12_keepRule 88 = .ok (.getfield 139, 3) := by decide +kernel
theorem dX12_keepRule_91 : decode cX12_keepRule 91 = .ok (.imul, 1) := by decide +kernel
theorem dX12_keepRule_92 : decode cX12_keepRule 92 = .ok (.iload_n 2, 1) := by decide +kernel
theorem dX12_keepRule_93 : decode cX12_keepRule 93 = .ok (.iadd, 1) := by decide +kernel
theorem dX12_keepRule_94 : decode cX12_keepRule 94 = .ok (.aload_n 0, 1) := by decide +kernel
theorem dX12_keepRule_95 : decode cX12_keepRule 95 = .ok (.getfield 35, 3) := by decide +kernel
theorem dX12_keepRule_98 : decode cX12_keepRule 98 = .ok (.iload_n 2, 1) := by decide +kernel
theorem dX12_keepRule_99 : decode cX12_keepRule 99 = .ok (.iaload, 1) := by decide +kernel
theorem dX12_keepRule_100 : decode cX12_keepRule 100 = .ok (.iastore, 1) := by decide +kernel
theorem dX12_keepRule_101 : decode cX12_keepRule 101 = .ok (.iinc 2 1, 3) := by decide +kernel
theorem dX12_keepRule_104 : decode cX12_keepRule 104 = .ok (.goto (-31), 3) := by decide +kernel
theorem dX12_keepRule_107 : decode cX12_keepRule 107 = .ok (.aload_n 0, 1) := by decide +kernel
theorem dX12_keepRule_108 : decode cX12_keepRule 108 = .ok (.dup, 1) := by decide +kernel
theorem dX12_keepRule_109 : decode cX12_keepRule 109 = .ok (.getfield 139, 3) := by decide +kernel
theorem dX12_keepRule_112 : decode cX12_keepRule 112 = .ok (.iconst 1, 1) := by decide +kernel
theorem dX12_keepRule_113 : decode cX12_keepRule 113 = .ok (.iadd, 1) := by decide +kernel
theorem dX12_keepRule_114 : decode cX12_keepRule 114 = .ok (.putfield 139, 3) := by decide +kernel
theorem dX12_keepRule_117 : decode cX12_keepRule 117 = .ok (.return_, 1) := by decide +kernel
theorem dX12_laps_0 : decode cX12_laps 0 = .ok (.iconst 1, 1) := by decide +kernel
theorem dX12_laps_1 : decode cX12_laps 1 = .ok (.istore 4, 2) := by decide +kernel
theorem dX12_laps_3 : decode cX12_laps 3 = .ok (.iconst 0, 1) := by decide +kernel
theorem dX12_laps_4 : decode cX12_laps 4 = .ok (.istore 5, 2) := by decide +kernel
theorem dX12_laps_6 : decode cX12_laps 6 = .ok (.iload 5, 2) := by decide +kernel
theorem dX12_laps_8 : decode cX12_laps 8 = .ok (.iload_n 3, 1) := by decide +kernel
theorem dX12_laps_9 : decode cX12_laps 9 = .ok (.if_icmp .ge 57, 3) := by decide +kernel
theorem dX12_laps_12 : decode cX12_laps 12 = .ok (.iload 4, 2) := by decide +kernel
theorem dX12_laps_14 : decode cX12_laps 14 = .ok (.ifCond .eq 52, 3) := by decide +kernel
theorem dX12_laps_17 : decode cX12_laps 17 = .ok (.aload_n 0, 1) := by decide +kernel
theorem dX12_laps_18 : decode cX12_laps 18 = .ok (.getfield 41, 3) := by decide +kernel
theorem dX12_laps_21 : decode cX12_laps 21 = .ok (.bipush 24, 2) := by decide +kernel
theorem dX12_laps_23 : decode cX12_laps 23 = .ok (.iload_n 1, 1) := by decide +kernel
theorem dX12_laps_24 : decode cX12_laps 24 = .ok (.imul, 1) := by decide +kernel
theorem dX12_laps_25 : decode cX12_laps 25 = .ok (.aload_n 0, 1) := by decide +kernel
theorem dX12_laps_26 : decode cX12_laps 26 = .ok (.getfield 38, 3) := by decide +kernel
theorem dX12_laps_29 : decode cX12_laps 29 = .ok (.iload_n 1, 1) := by decide +kernel
theorem dX12_laps_30 : decode cX12_laps 30 = .ok (.iaload, 1) := by decide +kernel
theorem dX12_laps_31 : decode cX12_laps 31 = .ok (.iadd, 1) := by decide +kernel
theorem dX12_laps_32 : decode cX12_laps 32 = .ok (.iload_n 3, 1) := by decide +kernel
theorem dX12_laps_33 : decode cX12_laps 33 = .ok (.isub, 1) := by decide +kernel
theorem dX12_laps_34 : decode cX12_laps 34 = .ok (.iload 5, 2) := by decide +kernel
theorem dX12_laps_36 : decode cX12_laps 36 = .ok (.iadd, 1) := by decide +kernel
theorem dX12_laps_37 : decode cX12_laps 37 = .ok (.iaload, 1) := by decide +kernel
theorem dX12_laps_38 : decode cX12_laps 38 = .ok (.aload_n 0, 1) := by decide +kernel
theorem dX12_laps_39 : decode cX12_laps 39 = .ok (.getfield 41, 3) := by decide +kernel
theorem dX12_laps_42 : decode cX12_laps 42 = .ok (.bipush 24, 2) := by decide +kernel
theorem dX12_laps_44 : decode cX12_laps 44 = .ok (.iload_n 2, 1) := by decide +kernel
theorem dX12_laps_45 : decode cX12_laps 45 = .ok (.imul, 1) := by decide +kernel
theorem dX12_laps_46 : decode cX12_laps 46 = .ok (.iload 5, 2) := by decide +kernel
theorem dX12_laps_48 : decode cX12_laps 48 = .ok (.iadd, 1) := by decide +kernel
theorem dX12_laps_49 : decode cX12_laps 49 = .ok (.iaload, 1) := by decide +kernel
theorem dX12_laps_50 : decode cX12_laps 50 = .ok (.if_icmp .ne 7, 3) := by decide +kernel
theorem dX12_laps_53 : decode cX12_laps 53 = .ok (.iconst 1, 1) := by decide +kernel
theorem dX12_laps_54 : decode cX12_laps 54 = .ok (.goto 4, 3) := by decide +kernel
theorem dX12_laps_57 : decode cX12_laps 57 = .ok (.iconst 0, 1) := by decide +kernel
theorem dX12_laps_58 : decode cX12_laps 58 = .ok (.istore 4, 2) := by decide +kernel
theorem dX12_laps_60 : decode cX12_laps 60 = .ok (.iinc 5 1, 3) := by decide +kernel
theorem dX12_laps_63 : decode cX12_laps 63 = .ok (.goto (-57), 3) := by decide +kernel
theorem dX12_laps_66 : decode cX12_laps 66 = .ok (.iload 4, 2) := by decide +kernel
theorem dX12_laps_68 : decode cX12_laps 68 = .ok (.ireturn, 1) := by decide +kernel
set_option maxRecDepth 20000 in
theorem ggX12_lapsHold_X12_laps : GoodIn wsX12_lapsHold wsX12_laps := goodIn_r _ [10, 5, 1, 31, 32, 33, 34, 35, 36, 37, 38, 39, 40, 41, 42, 43, 44, 45, 46, 47, 48, 49, 50, 51, 52, 53, 54, 55, 56, 57, 58, 59, 60, 61, 62, 63, 64] (by decide +kernel) (by decide +kernel)
set_option maxRecDepth 20000 in
theorem gX12_lapsHold_X12_laps : GoodIn wsX12_lapsHold (wsV RX12 181 RX12 yX12_laps wsX12_laps) := goodIn_app (goodIn_of _ (by decide +kernel)) ggX12_lapsHold_X12_laps
set_option maxRecDepth 20000 in
theorem ggX12_lapsHold_X12_put : GoodIn wsX12_lapsHold wsX12_put := goodIn_r _ [14, 15, 2, 31, 32, 33, 34, 35, 36, 37, 38, 39, 40, 41, 42, 43, 44, 45, 46, 47, 48, 49, 50, 51, 52, 53, 54, 55, 56, 57, 58, 59, 60, 61, 62, 63, 64] (by decide +kernel) (by decide +kernel)
set_option maxRecDepth 20000 in
theorem gX12_lapsHold_X12_put : GoodIn wsX12_lapsHold (wsV RX12 174 RX12 yX12_put wsX12_put) := goodIn_app (goodIn_of _ (by decide +kernel)) ggX12_lapsHold_X12_put
set_option maxRecDepth 20000 in
theorem ggX12_lapsHold_X12_meets : GoodIn wsX12_lapsHold wsX12_meets := goodIn_r _ [19, 20, 21, 22, 9, 23, 2, 15, 24, 25, 26, 1, 4, 3, 27, 28, 29, 30, 31, 32, 33, 34, 35, 36, 37, 38, 39, 40, 41, 42, 43, 44, 45, 46, 47, 48, 49, 50, 51, 52, 53, 54, 55, 56, 57, 58, 59, 60, 61, 62, 63, 64] rfl (by decide +kernel)
set_option maxRecDepth 20000 in
theorem gX12_lapsHold_X12_meets : GoodIn wsX12_lapsHold (wsV RX12 178 RX12 yX12_meets wsX12_meets) := goodIn_app (goodIn_of _ (by decide +kernel)) ggX12_lapsHold_X12_meets
theorem dX12_lapsHold_0 : decode cX12_lapsHold 0 = .ok (.iconst 1, 1) := by decide +kernel
theorem dX12_lapsHold_1 : decode cX12_lapsHold 1 = .ok (.istore_n 3, 1) := by decide +kernel
theorem dX12_lapsHold_2 : decode cX12_lapsHold 2 = .ok (.iload_n 3, 1) := by decide +kernel
theorem dX12_lapsHold_3 : decode cX12_lapsHold 3 = .ok (.aload_n 0, 1) := by decide +kernel
theorem dX12_lapsHold_4 : decode cX12_lapsHold 4 = .ok (.getfield 38, 3) := by decide +kernel
theorem dX12_lapsHold_7 : decode cX12_lapsHold 7 = .ok (.iload_n 1, 1) := by decide +kernel
theorem dX12_lapsHold_8 : decode cX12_lapsHold 8 = .ok (.iaload, 1) := by decide +kernel
theorem dX12_lapsHold_9 : decode cX12_lapsHold 9 = .ok (.if_icmp .ge 144, 3) := by decide +kernel
theorem dX12_lapsHold_12 : decode cX12_lapsHold 12 = .ok (.iload_n 3, 1) := by decide +kernel
theorem dX12_lapsHold_13 : decode cX12_lapsHold 13 = .ok (.aload_n 0, 1) := by decide +kernel
theorem dX12_lapsHold_14 : decode cX12_lapsHold 14 = .ok (.getfield 38, 3) := by decide +kernel
theorem dX12_lapsHold_17 : decode cX12_lapsHold 17 = .ok (.iload_n 2, 1) := by decide +kernel
theorem dX12_lapsHold_18 : decode cX12_lapsHold 18 = .ok (.iaload, 1) := by decide +kernel
theorem dX12_lapsHold_19 : decode cX12_lapsHold 19 = .ok (.if_icmp .ge 134, 3) := by decide +kernel
theorem dX12_lapsHold_22 : decode cX12_lapsHold 22 = .ok (.aload_n 0, 1) := by decide +kernel
theorem dX12_lapsHold_23 : decode cX12_lapsHold 23 = .ok (.iload_n 1, 1) := by decide +kernel
theorem dX12_lapsHold_24 : decode cX12_lapsHold 24 = .ok (.iload_n 2, 1) := by decide +kernel
theorem dX12_lapsHold_25 : decode cX12_lapsHold 25 = .ok (.iload_n 3, 1) := by decide +kernel
theorem dX12_lapsHold_26 : decode cX12_lapsHold 26 = .ok (.invokevirtual 181, 3) := by decide +kernel
theorem dX12_lapsHold_29 : decode cX12_lapsHold 29 = .ok (.ifCond .eq 118, 3) := by decide +kernel
theorem dX12_lapsHold_32 : decode cX12_lapsHold 32 = .ok (.aload_n 0, 1) := by decide +kernel
theorem dX12_lapsHold_33 : decode cX12_lapsHold 33 = .ok (.getfield 13, 3) := by decide +kernel
theorem dX12_lapsHold_36 : decode cX12_lapsHold 36 = .ok (.bipush 9, 2) := by decide +kernel
theorem dX12_lapsHold_38 : decode cX12_lapsHold 38 = .ok (.iconst 0, 1) := by decide +kernel
theorem dX12_lapsHold_39 : decode cX12_lapsHold 39 = .ok (.iastore, 1) := by decide +kernel
theorem dX12_lapsHold_40 : decode cX12_lapsHold 40 = .ok (.aload_n 0, 1) := by decide +kernel
theorem dX12_lapsHold_41 : decode cX12_lapsHold 41 = .ok (.bipush 9, 2) := by decide +kernel
theorem dX12_lapsHold_43 : decode cX12_lapsHold 43 = .ok (.aload_n 0, 1) := by decide +kernel
theorem dX12_lapsHold_44 : decode cX12_lapsHold 44 = .ok (.getfield 47, 3) := by decide +kernel
theorem dX12_lapsHold_47 : decode cX12_lapsHold 47 = .ok (.bipush 24, 2) := by decide +kernel
theorem dX12_lapsHold_49 : decode cX12_lapsHold 49 = .ok (.iload_n 1, 1) := by decide +kernel
theorem dX12_lapsHold_50 : decode cX12_lapsHold 50 = .ok (.imul, 1) := by decide +kernel
theorem dX12_lapsHold_51 : decode cX12_lapsHold 51 = .ok (.aload_n 0, 1) := by decide +kernel
theorem dX12_lapsHold_52 : decode cX12_lapsHold 52 = .ok (.getfield 44, 3) := by decide +kernel
theorem dX12_lapsHold_55 : decode cX12_lapsHold 55 = .ok (.iload_n 1, 1) := by decide +kernel
theorem dX12_lapsHold_56 : decode cX12_lapsHold 56 = .ok (.iaload, 1) := by decide +kernel
theorem dX12_lapsHold_57 : decode cX12_lapsHold 57 = .ok (.invokevirtual 174, 3) := by decide +kernel
theorem dX12_lapsHold_60 : decode cX12_lapsHold 60 = .ok (.aload_n 0, 1) := by decide +kernel
theorem dX12_lapsHold_61 : decode cX12_lapsHold 61 = .ok (.bipush 9, 2) := by decide +kernel
theorem dX12_lapsHold_63 : decode cX12_lapsHold 63 = .ok (.aload_n 0, 1) := by decide +kernel
theorem dX12_lapsHold_64 : decode cX12_lapsHold 64 = .ok (.getfield 41, 3) := by decide +kernel
theorem dX12_lapsHold_67 : decode cX12_lapsHold 67 = .ok (.bipush 24, 2) := by decide +kernel
theorem dX12_lapsHold_69 : decode cX12_lapsHold 69 = .ok (.iload_n 2, 1) := by decide +kernel
theorem dX12_lapsHold_70 : decode cX12_lapsHold 70 = .ok (.imul, 1) := by decide +kernel
theorem dX12_lapsHold_71 : decode cX12_lapsHold 71 = .ok (.iload_n 3, 1) := by decide +kernel
theorem dX12_lapsHold_72 : decode cX12_lapsHold 72 = .ok (.iadd, 1) := by decide +kernel
theorem dX12_lapsHold_73 : decode cX12_lapsHold 73 = .ok (.aload_n 0, 1) := by decide +kernel
theorem dX12_lapsHold_74 : decode cX12_lapsHold 74 = .ok (.getfield 38, 3) := by decide +kernel
theorem dX12_lapsHold_77 : decode cX12_lapsHold 77 = .ok (.iload_n 2, 1) := by decide +kernel
theorem dX12_lapsHold_78 : decode cX12_lapsHold 78 = .ok (.iaload, 1) := by decide +kernel
theorem dX12_lapsHold_79 : decode cX12_lapsHold 79 = .ok (.iload_n 3, 1) := by decide +kernel
theorem dX12_lapsHold_80 : decode cX12_lapsHold 80 = .ok (.isub, 1) := by decide +kernel
theorem dX12_lapsHold_81 : decode cX12_lapsHold 81 = .ok (.invokevirtual 174, 3) := by decide +kernel
theorem dX12_lapsHold_84 : decode cX12_lapsHold 84 = .ok (.aload_n 0, 1) := by decide +kernel
theorem dX12_lapsHold_85 : decode cX12_lapsHold 85 = .ok (.getfield 13, 3) := by decide +kernel
theorem dX12_lapsHold_88 : decode cX12_lapsHold 88 = .ok (.bipush 10, 2) := by decide +kernel
theorem dX12_lapsHold_90 : decode cX12_lapsHold 90 = .ok (.iconst 0, 1) := by decide +kernel
theorem dX12_lapsHold_91 : decode cX12_lapsHold 91 = .ok (.iastore, 1) := by decide +kernel
theorem dX12_lapsHold_92 : decode cX12_lapsHold 92 = .ok (.aload_n 0, 1) := by decide +kernel
theorem dX12_lapsHold_93 : decode cX12_lapsHold 93 = .ok (.bipush 10, 2) := by decide +kernel
theorem dX12_lapsHold_95 : decode cX12_lapsHold 95 = .ok (.aload_n 0, 1) := by decide +kernel
theorem dX12_lapsHold_96 : decode cX12_lapsHold 96 = .ok (.getfield 41, 3) := by decide +kernel
theorem dX12_lapsHold_99 : decode cX12_lapsHold 99 = .ok (.bipush 24, 2) := by decide +kernel
theorem dX12_lapsHold_101 : decode cX12_lapsHold 101 = .ok (.iload_n 1, 1) := by decide +kernel
theorem dX12_lapsHold_102 : decode cX12_lapsHold 102 = .ok (.imul, 1) := by decide +kernel
theorem dX12_lapsHold_103 : decode cX12_lapsHold 103 = .ok (.aload_n 0, 1) := by decide +kernel
theorem dX12_lapsHold_104 : decode cX12_lapsHold 104 = .ok (.getfield 38, 3) := by decide +kernel
theorem dX12_lapsHold_107 : decode cX12_lapsHold 107 = .ok (.iload_n 1, 1) := by decide +kernel
theorem dX12_lapsHold_108 : decode cX12_lapsHold 108 = .ok (.iaload, 1) := by decide +kernel
theorem dX12_lapsHold_109 : decode cX12_lapsHold 109 = .ok (.iload_n 3, 1) := by decide +kernel
theorem dX12_lapsHold_110 : decode cX12_lapsHold 110 = .ok (.isub, 1) := by decide +kernel
theorem dX12_lapsHold_111 : decode cX12_lapsHold 111 = .ok (.invokevirtual 174, 3) := by decide +kernel
theorem dX12_lapsHold_114 : decode cX12_lapsHold 114 = .ok (.aload_n 0, 1) := by decide +kernel
theorem dX12_lapsHold_115 : decode cX12_lapsHold 115 = .ok (.bipush 10, 2) := by decide +kernel
theorem dX12_lapsHold_117 : decode cX12_lapsHold 117 = .ok (.aload_n 0, 1) := by decide +kernel
theorem dX12_lapsHold_118 : decode cX12_lapsHold 118 = .ok (.getfield 47, 3) := by decide +kernel
theorem dX12_lapsHold_121 : decode cX12_lapsHold 121 = .ok (.bipush 24, 2) := by decide +kernel
theorem dX12_lapsHold_123 : decode cX12_lapsHold 123 = .ok (.iload_n 2, 1) := by decide +kernel
theorem dX12_lapsHold_124 : decode cX12_lapsHold 124 = .ok (.imul, 1) := by decide +kernel
theorem dX12_lapsHold_125 : decode cX12_lapsHold 125 = .ok (.aload_n 0, 1) := by decide +kernel
theorem dX12_lapsHold_126 : decode cX12_lapsHold 126 = .ok (.getfield 44, 3) := by decide +kernel
theorem dX12_lapsHold_129 : decode cX12_lapsHold 129 = .ok (.iload_n 2, 1) := by decide +kernel
theorem dX12_lapsHold_130 : decode cX12_lapsHold 130 = .ok (.iaload, 1) := by decide +kernel
theorem dX12_lapsHold_131 : decode cX12_lapsHold 131 = .ok (.invokevirtual 174, 3) := by decide +kernel
theorem dX12_lapsHold_134 : decode cX12_lapsHold 134 = .ok (.aload_n 0, 1) := by decide +kernel
theorem dX12_lapsHold_135 : decode cX12_lapsHold 135 = .ok (.bipush 9, 2) := by decide +kernel
theorem dX12_lapsHold_137 : decode cX12_lapsHold 137 = .ok (.bipush 10, 2) := by decide +kernel
theorem dX12_lapsHold_139 : decode cX12_lapsHold 139 = .ok (.invokevirtual 178, 3) := by decide +kernel
theorem dX12_lapsHold_142 : decode cX12_lapsHold 142 = .ok (.ifCond .ne 5, 3) := by decide +kernel
theorem dX12_lapsHold_145 : decode cX12_lapsHold 145 = .ok (.iconst 0, 1) := by decide +kernel
theorem dX12_lapsHold_146 : decode cX12_lapsHold 146 = .ok (.ireturn, 1) := by decide +kernel
theorem dX12_lapsHold_147 : decode cX12_lapsHold 147 = .ok (.iinc 3 1, 3) := by decide +kernel
theorem dX12_lapsHold_150 : decode cX12_lapsHold 150 = .ok (.goto (-148), 3) := by decide +kernel
theorem dX12_lapsHold_153 : decode cX12_lapsHold 153 = .ok (.iconst 1, 1) := by decide +kernel
theorem dX12_lapsHold_154 : decode cX12_lapsHold 154 = .ok (.ireturn, 1) := by decide +kernel
set_option maxRecDepth 20000 in
theorem ggX12_law_X12_isSlot : GoodIn wsX12_law wsX12_isSlot := goodIn_r _ [10, 11, 12, 13, 9, 14] (by decide +kernel) (by decide +kernel)
set_option maxRecDepth 20000 in
theorem gX12_law_X12_isSlot : GoodIn wsX12_law (va_wsS RX12 102 yX12_isSlot wsX12_isSlot) := goodIn_app (goodIn_of _ (by decide +kernel)) ggX12_law_X12_isSlot
theorem dX12_law_0 : decode cX12_law 0 = .ok (.iload_n 1, 1) := by decide +kernel
theorem dX12_law_1 : decode cX12_law 1 = .ok (.invokestatic 102, 3) := by decide +kernel
theorem dX12_law_4 : decode cX12_law 4 = .ok (.ifCond .eq 10, 3) := by decide +kernel
theorem dX12_law_7 : decode cX12_law 7 = .ok (.iload_n 2, 1) := by decide +kernel
theorem dX12_law_8 : decode cX12_law 8 = .ok (.invokestatic 102, 3) := by decide +kernel
theorem dX12_law_11 : decode cX12_law 11 = .ok (.ifCond .ne 5, 3) := by decide +kernel
theorem dX12_law_14 : decode cX12_law 14 = .ok (.iconst (-1), 1) := by decide +kernel
theorem dX12_law_15 : decode cX12_law 15 = .ok (.ireturn, 1) := by decide +kernel
theorem dX12_law_16 : decode cX12_law 16 = .ok (.aload_n 0, 1) := by decide +kernel
theorem dX12_law_17 : decode cX12_law 17 = .ok (.getfield 13, 3) := by decide +kernel
theorem dX12_law_20 : decode cX12_law 20 = .ok (.iload_n 1, 1) := by decide +kernel
theorem dX12_law_21 : decode cX12_law 21 = .ok (.iaload, 1) := by decide +kernel
theorem dX12_law_22 : decode cX12_law 22 = .ok (.bipush 12, 2) := by decide +kernel
theorem dX12_law_24 : decode cX12_law 24 = .ok (.if_icmp .gt 14, 3) := by decide +kernel
theorem dX12_law_27 : decode cX12_law 27 = .ok (.aload_n 0, 1) := by decide +kernel
theorem dX12_law_28 : decode cX12_law 28 = .ok (.getfield 13, 3) := by decide +kernel
theorem dX12_law_31 : decode cX12_law 31 = .ok (.iload_n 2, 1) := by decide +kernel
theorem dX12_law_32 : decode cX12_law 32 = .ok (.iaload, 1) := by decide +kernel
theorem dX12_law_33 : decode cX12_law 33 = .ok (.bipush 12, 2) := by decide +kernel
theorem dX12_law_35 : decode cX12_law 35 = .ok (.if_icmp .le 6, 3) := by decide +kernel
theorem dX12_law_38 : decode cX12_law 38 = .ok (.bipush (-3), 2) := by decide +kernel
theorem dX12_law_40 : decode cX12_law 40 = .ok (.ireturn, 1) := by decide +kernel
theorem dX12_law_41 : decode cX12_law 41 = .ok (.aload_n 0, 1) := by decide +kernel
theorem dX12_law_42 : decode cX12_law 42 = .ok (.getfield 99, 3) := by decide +kernel
theorem dX12_law_45 : decode cX12_law 45 = .ok (.bipush 8, 2) := by decide +kernel
theorem dX12_law_47 : decode cX12_law 47 = .ok (.if_icmp .ne 6, 3) := by decide +kernel
theorem dX12_law_50 : decode cX12_law 50 = .ok (.bipush (-4), 2) := by decide +kernel
theorem dX12_law_52 : decode cX12_law 52 = .ok (.ireturn, 1) := by decide +kernel
theorem dX12_law_53 : decode cX12_law 53 = .ok (.iconst 0, 1) := by decide +kernel
theorem dX12_law_54 : decode cX12_law 54 = .ok (.istore_n 3, 1) := by decide +kernel
theorem dX12_law_55 : decode cX12_law 55 = .ok (.iload_n 3, 1) := by decide +kernel
theorem dX12_law_56 : decode cX12_law 56 = .ok (.iconst 2, 1) := by decide +kernel
theorem dX12_law_57 : decode cX12_law 57 = .ok (.if_icmp .ge 94, 3) := by decide +kernel
theorem dX12_law_60 : decode cX12_law 60 = .ok (.iload_n 3, 1) := by decide +kernel
theorem dX12_law_61 : decode cX12_law 61 = .ok (.ifCond .ne 7, 3) := by decide +kernel
theorem dX12_law_64 : decode cX12_law 64 = .ok (.iload_n 1, 1) := by decide +kernel
theorem dX12_law_65 : decode cX12_law 65 = .ok (.goto 4, 3) := by decide +kernel
theorem dX12_law_68 : decode cX12_law 68 = .ok (.iload_n 2, 1) := by decide +kernel
theorem dX12_law_69 : decode cX12_law 69 = .ok (.istore 4, 2) := by decide +kernel
theorem dX12_law_71 : decode cX12_law 71 = .ok (.aload_n 0, 1) := by decide +kernel
theorem dX12_law_72 : decode cX12_law 72 = .ok (.getfield 20, 3) := by decide +kernel
theorem dX12_law_75 : decode cX12_law 75 = .ok (.iconst 2, 1) := by decide +kernel
theorem dX12_law_76 : decode cX12_law 76 = .ok (.aload_n 0, 1) := by decide +kernel
theorem dX12_law_77 : decode cX12_law 77 = .ok (.getfield 99, 3) := by decide +kernel
theorem dX12_law_80 : decode cX12_law 80 = .ok (.imul, 1) := by decide +kernel
theorem dX12_law_81 : decode cX12_law 81 = .ok (.iload_n 3, 1) := by decide +kernel
theorem dX12_law_82 : decode cX12_law 82 = .ok (.iadd, 1) := by decide +kernel
theorem dX12_law_83 : decode cX12_law 83 = .ok (.aload_n 0, 1) := by decide +kernel
theorem dX12_law_84 : decode cX12_law 84 = .ok (.getfield 13, 3) := by decide +kernel
theorem dX12_law_87 : decode cX12_law 87 = .ok (.iload 4, 2) := by decide +kernel
theorem dX12_law_89 : decode cX12_law 89 = .ok (.iaload, 1) := by decide +kernel
theorem dX12_law_90 : decode cX12_law 90 = .ok (.iastore, 1) := by decide +kernel
theorem dX12_law_91 : decode cX12_law 91 = .ok (.iconst 0, 1) := by decide +kernel
theorem dX12_law_92 : decode cX12_law 92 = .ok (.istore 5, 2) := by decide +kernel
theorem dX12_law_94 : decode cX12_law 94 = .ok (.iload 5, 2) := by decide +kernel
theorem dX12_law_96 : decode cX12_law 96 = .ok (.aload_n 0, 1) := by decide +kernel
theorem dX12_law_97 : decode cX12_law 97 = .ok (.getfield 13, 3) := by decide +kernel
theorem dX12_law_100 : decode cX12_law 100 = .ok (.iload 4, 2) := by decide +kernel
theorem dX12_law_102 : decode cX12_law 102 = .ok (.iaload, 1) := by decide +kernel
theorem dX12_law_103 : decode cX12_law 103 = .ok (.if_icmp .ge 42, 3) := by decide +kernel
theorem dX12_law_106 : decode cX12_law 106 = .ok (.aload_n 0, 1) := by decide +kernel
theorem dX12_law_107 : decode cX12_law 107 = .ok (.getfield 23, 3) := by decide +kernel
theorem dX12_law_110 : decode cX12_law 110 = .ok (.bipush 12, 2) := by decide +kernel
theorem dX12_law_112 : decode cX12_law 112 = .ok (.iconst 2, 1) := by decide +kernel
theorem dX12_law_113 : decode cX12_law 113 = .ok (.aload_n 0, 1) := by decide +kernel
theorem dX12_law_114 : decode cX12_law 114 = .ok (.getfield 99, 3) := by decide +kernel
theorem dX12_law_117 : decode cX12_law 117 = .ok (.imul, 1) := by decide +kernel
theorem dX12_law_118 : decode cX12_law 118 = .ok (.iload_n 3, 1) := by decide +kernel
theorem dX12_law_119 : decode cX12_law 119 = .ok (.iadd, 1) := by decide +kernel
theorem dX12_law_120 : decode cX12_law 120 = .ok (.imul, 1) := by decide +kernel
theorem dX12_law_121 : decode cX12_law 121 = .ok (.iload 5, 2) := by decide +kernel
theorem dX12_law_123 : decode cX12_law 123 = .ok (.iadd, 1) := by decide +kernel
theorem dX12_law_124 : decode cX12_law 124 = .ok (.aload_n 0, 1) := by decide +kernel
theorem dX12_law_125 : decode cX12_law 125 = .ok (.getfield 17, 3) := by decide +kernel
theorem dX12_law_128 : decode cX12_law 128 = .ok (.sipush 128, 3) := by decide +kernel
theorem dX12_law_131 : decode cX12_law 131 = .ok (.iload 4, 2) := by decide +kernel
theorem dX12_law_133 : decode cX12_law 133 = .ok (.imul, 1) := by decide +kernel
theorem dX12_law_134 : decode cX12_law 134 = .ok (.iload 5, 2) := by decide +kernel
theorem dX12_law_136 : decode cX12_law 136 = .ok (.iadd, 1) := by decide +kernel
theorem dX12_law_137 : decode cX12_law 137 = .ok (.iaload, 1) := by decide +kernel
theorem dX12_law_138 : decode cX12_law 138 = .ok (.iastore, 1) := by decide +kernel
theorem dX12_law_139 : decode cX12_law 139 = .ok (.iinc 5 1, 3) := by decide +kernel
theorem dX12_law_142 : decode cX12_law 142 = .ok (.goto (-48), 3) := by decide +kernel
theorem dX12_law_145 : decode cX12_law 145 = .ok (.iinc 3 1, 3) := by decide +kernel
theorem dX12_law_148 : decode cX12_law 148 = .ok (.goto (-93), 3) := by decide +kernel
theorem dX12_law_151 : decode cX12_law 151 = .ok (.aload_n 0, 1) := by decide +kernel
theorem dX12_law_152 : decode cX12_law 152 = .ok (.dup, 1) := by decide +kernel
theorem dX12_law_153 : decode cX12_law 153 = .ok (.getfield 99, 3) := by decide +kernel
theorem dX12_law_156 : decode cX12_law 156 = .ok (.iconst 1, 1) := by decide +kernel
theorem dX12_law_157 : decode cX12_law 157 = .ok (.iadd, 1) := by decide +kernel
theorem dX12_law_158 : decode cX12_law 158 = .ok (.putfield 99, 3) := by decide +kernel
theorem dX12_law_161 : decode cX12_law 161 = .ok (.aload_n 0, 1) := by decide +kernel
theorem dX12_law_162 : decode cX12_law 162 = .ok (.bipush (-9), 2) := by decide +kernel
theorem dX12_law_164 : decode cX12_law 164 = .ok (.putfield 26, 3) := by decide +kernel
theorem dX12_law_167 : decode cX12_law 167 = .ok (.aload_n 0, 1) := by decide +kernel
theorem dX12_law_168 : decode cX12_law 168 = .ok (.getfield 99, 3) := by decide +kernel
theorem dX12_law_171 : decode cX12_law 171 = .ok (.ireturn, 1) := by decide +kernel
set_option maxRecDepth 20000 in
theorem ggX12_lawsHold_X12_put : GoodIn wsX12_lawsHold wsX12_put := goodIn_r _ [9, 10, 2, 29, 30, 31, 32, 33, 34, 35, 36, 37, 38, 39, 40, 41, 42, 43, 44, 45, 46, 47, 48, 49, 50, 51, 52, 53, 54, 55, 56, 57, 58, 59, 60, 61, 62] (by decide +kernel) (by decide +kernel)
set_option maxRecDepth 20000 in
theorem gX12_lawsHold_X12_put : GoodIn wsX12_lawsHold (wsV RX12 174 RX12 yX12_put wsX12_put) := goodIn_app (goodIn_of _ (by decide +kernel)) ggX12_lawsHold_X12_put
set_option maxRecDepth 20000 in
theorem ggX12_lawsHold_X12_meets : GoodIn wsX12_lawsHold wsX12_meets := goodIn_r _ [14, 15, 16, 17, 8, 18, 2, 10, 19, 20, 21, 22, 23, 24, 25, 26, 27, 28, 29, 30, 31, 32, 33, 34, 35, 36, 37, 38, 39, 40, 41, 42, 43, 44, 45, 46, 47, 48, 49, 50, 51, 52, 53, 54, 55, 56, 57, 58, 59, 60, 61, 62] rfl (by decide +kernel)
set_option maxRecDepth 20000 in
theorem gX12_lawsHold_X12_meets : GoodIn wsX12_lawsHold (wsV RX12 178 RX12 yX12_meets wsX12_meets) := goodIn_app (goodIn_of _ (by decide +kernel)) ggX12_lawsHold_X12_meets
theorem dX12_lawsHold_0 : decode cX12_lawsHold 0 = .ok (.iconst 0, 1) := by decide +kernel
theorem dX12_lawsHold_1 : decode cX12_lawsHold 1 = .ok (.istore_n 1, 1) := by decide +kernel
theorem dX12_lawsHold_2 : decode cX12_lawsHold 2 = .ok (.iload_n 1, 1) := by decide +kernel
theorem dX12_lawsHold_3 : decode cX12_lawsHold 3 = .ok (.aload_n 0, 1) := by decide +kernel
theorem dX12_lawsHold_4 : decode cX12_lawsHold 4 = .ok (.getfield 99, 3) := by decide +kernel
theorem dX12_lawsHold_7 : decode cX12_lawsHold 7 = .ok (.if_icmp .ge 87, 3) := by decide +kernel
theorem dX12_lawsHold_10 : decode cX12_lawsHold 10 = .ok (.aload_n 0, 1) := by decide +kernel
theorem dX12_lawsHold_11 : decode cX12_lawsHold 11 = .ok (.getfield 13, 3) := by decide +kernel
theorem dX12_lawsHold_14 : decode cX12_lawsHold 14 = .ok (.bipush 9, 2) := by decide +kernel
theorem dX12_lawsHold_16 : decode cX12_lawsHold 16 = .ok (.iconst 0, 1) := by decide +kernel
theorem dX12_lawsHold_17 : decode cX12_lawsHold 17 = .ok (.iastore, 1) := by decide +kernel
theorem dX12_lawsHold_18 : decode cX12_lawsHold 18 = .ok (.aload_n 0, 1) := by decide +kernel
theorem dX12_lawsHold_19 : decode cX12_lawsHold 19 = .ok (.bipush 9, 2) := by decide +kernel
theorem dX12_lawsHold_21 : decode cX12_lawsHold 21 = .ok (.aload_n 0, 1) := by decide +kernel
theorem dX12_lawsHold_22 : decode cX12_lawsHold 22 = .ok (.getfield 23, 3) := by decide +kernel
theorem dX12_lawsHold_25 : decode cX12_lawsHold 25 = .ok (.bipush 24, 2) := by decide +kernel
theorem dX12_lawsHold_27 : decode cX12_lawsHold 27 = .ok (.iload_n 1, 1) := by decide +kernel
theorem dX12_lawsHold_28 : decode cX12_lawsHold 28 = .ok (.imul, 1) := by decide +kernel
theorem dX12_lawsHold_29 : decode cX12_lawsHold 29 = .ok (.aload_n 0, 1) := by decide +kernel
theorem dX12_lawsHold_30 : decode cX12_lawsHold 30 = .ok (.getfield 20, 3) := by decide +kernel
theorem dX12_lawsHold_33 : decode cX12_lawsHold 33 = .ok (.iconst 2, 1) := by decide +kernel
theorem dX12_lawsHold_34 : decode cX12_lawsHold 34 = .ok (.iload_n 1, 1) := by decide +kernel
theorem dX12_lawsHold_35 : decode cX12_lawsHold 35 = .ok (.imul, 1) := by decide +kernel
theorem dX12_lawsHold_36 : decode cX12_lawsHold 36 = .ok (.iaload, 1) := by decide +kernel
theorem dX12_lawsHold_37 : decode cX12_lawsHold 37 = .ok (.invokevirtual 174, 3) := by decide +kernel
theorem dX12_lawsHold_40 : decode cX12_lawsHold 40 = .ok (.aload_n 0, 1) := by decide +kernel
theorem dX12_lawsHold_41 : decode cX12_lawsHold 41 = .ok (.getfield 13, 3) := by decide +kernel
theorem dX12_lawsHold_44 : decode cX12_lawsHold 44 = .ok (.bipush 10, 2) := by decide +kernel
theorem dX12_lawsHold_46 : decode cX12_lawsHold 46 = .ok (.iconst 0, 1) := by decide +kernel
theorem dX12_lawsHold_47 : decode cX12_lawsHold 47 = .ok (.iastore, 1) := by decide +kernel
theorem dX12_lawsHold_48 : decode cX12_lawsHold 48 = .ok (.aload_n 0, 1) := by decide +kernel
theorem dX12_lawsHold_49 : decode cX12_lawsHold 49 = .ok (.bipush 10, 2) := by decide +kernel
theorem dX12_lawsHold_51 : decode cX12_lawsHold 51 = .ok (.aload_n 0, 1) := by decide +kernel
theorem dX12_lawsHold_52 : decode cX12_lawsHold 52 = .ok (.getfield 23, 3) := by decide +kernel
theorem dX12_lawsHold_55 : decode cX12_lawsHold 55 = .ok (.bipush 24, 2) := by decide +kernel
theorem dX12_lawsHold_57 : decode cX12_lawsHold 57 = .ok (.iload_n 1, 1) := by decide +kernel
theorem dX12_lawsHold_58 : decode cX12_lawsHold 58 = .ok (.imul, 1) := by decide +kernel
theorem dX12_lawsHold_59 : decode cX12_lawsHold 59 = .ok (.bipush 12, 2) := by decide +kernel
theorem dX12_lawsHold_61 : decode cX12_lawsHold 61 = .ok (.iadd, 1) := by decide +kernel
theorem dX12_lawsHold_62 : decode cX12_lawsHold 62 = .ok (.aload_n 0, 1) := by decide +kernel
theorem dX12_lawsHold_63 : decode cX12_lawsHold 63 = .ok (.getfield 20, 3) := by decide +kernel
theorem dX12_lawsHold_66 : decode cX12_lawsHold 66 = .ok (.iconst 2, 1) := by decide +kernel
theorem dX12_lawsHold_67 : decode cX12_lawsHold 67 = .ok (.iload_n 1, 1) := by decide +kernel
theorem dX12_lawsHold_68 : decode cX12_lawsHold 68 = .ok (.imul, 1) := by decide +kernel
theorem dX12_lawsHold_69 : decode cX12_lawsHold 69 = .ok (.iconst 1, 1) := by decide +kernel
theorem dX12_lawsHold_70 : decode cX12_lawsHold 70 = .ok (.iadd, 1) := by decide +kernel
theorem dX12_lawsHold_71 : decode cX12_lawsHold 71 = .ok (.iaload, 1) := by decide +kernel
theorem dX12_lawsHold_72 : decode cX12_lawsHold 72 = .ok (.invokevirtual 174, 3) := by decide +kernel
theorem dX12_lawsHold_75 : decode cX12_lawsHold 75 = .ok (.aload_n 0, 1) := by decide +kernel
theorem dX12_lawsHold_76 : decode cX12_lawsHold 76 = .ok (.bipush 9, 2) := by decide +kernel
theorem dX12_lawsHold_78 : decode cX12_lawsHold 78 = .ok (.bipush 10, 2) := by decide +kernel
theorem dX12_lawsHold_80 : decode cX12_lawsHold 80 = .ok (.invokevirtual 178, 3) := by decide +kernel
theorem dX12_lawsHold_83 : decode cX12_lawsHold 83 = .ok (.ifCond .ne 5, 3) := by decide +kernel
theorem dX12_lawsHold_86 : decode cX12_lawsHold 86 = .ok (.iconst 0, 1) := by decide +kernel
theorem dX12_lawsHold_87 : decode cX12_lawsHold 87 = .ok (.ireturn, 1) := by decide +kernel
theorem dX12_lawsHold_88 : decode cX12_lawsHold 88 = .ok (.iinc 1 1, 3) := by decide +kernel
theorem dX12_lawsHold_91 : decode cX12_lawsHold 91 = .ok (.goto (-89), 3) := by decide +kernel
theorem dX12_lawsHold_94 : decode cX12_lawsHold 94 = .ok (.iconst 1, 1) := by decide +kernel
theorem dX12_lawsHold_95 : decode cX12_lawsHold 95 = .ok (.ireturn, 1) := by decide +kernel
theorem dX12_lay_0 : decode cX12_lay 0 = .ok (.aload_n 0, 1) := by decide +kernel
theorem dX12_lay_1 : decode cX12_lay 1 = .ok (.iconst 0, 1) := by decide +kernel
theorem dX12_lay_2 : decode cX12_lay 2 = .ok (.putfield 119, 3) := by decide +kernel
theorem dX12_lay_5 : decode cX12_lay 5 = .ok (.aload_n 0, 1) := by decide +kernel
theorem dX12_lay_6 : decode cX12_lay 6 = .ok (.getfield 29, 3) := by decide +kernel
theorem dX12_lay_9 : decode cX12_lay 9 = .ok (.aload_n 0, 1) := by decide +kernel
theorem dX12_lay_10 : decode cX12_lay 10 = .ok (.getfield 119, 3) := by decide +kernel
theorem dX12_lay_13 : decode cX12_lay 13 = .ok (.iconst 1, 1) := by decide +kernel
theorem dX12_lay_14 : decode cX12_lay 14 = .ok (.iadd, 1) := by decide +kernel
theorem dX12_lay_15 : decode cX12_lay 15 = .ok (.iaload, 1) := by decide +kernel
theorem dX12_lay_16 : decode cX12_lay 16 = .ok (.iload_n 1, 1) := by decide +kernel
theorem dX12_lay_17 : decode cX12_lay 17 = .ok (.if_icmp .gt 16, 3) := by decide +kernel
theorem dX12_lay_20 : decode cX12_lay 20 = .ok (.aload_n 0, 1) := by decide +kernel
theorem dX12_lay_21 : decode cX12_lay 21 = .ok (.dup, 1) := by decide +kernel
theorem dX12_lay_22 : decode cX12_lay 22 = .ok (.getfield 119, 3) := by decide +kernel
theorem dX12_lay_25 : decode cX12_lay 25 = .ok (.iconst 1, 1) := by decide +kernel
theorem dX12_lay_26 : decode cX12_lay 26 = .ok (.iadd, 1) := by decide +kernel
theorem dX12_lay_27 : decode cX12_lay 27 = .ok (.putfield 119, 3) := by decide +kernel
theorem dX12_lay_30 : decode cX12_lay 30 = .ok (.goto (-25), 3) := by decide +kernel
theorem dX12_lay_33 : decode cX12_lay 33 = .ok (.iload_n 1, 1) := by decide +kernel
theorem dX12_lay_34 : decode cX12_lay 34 = .ok (.aload_n 0, 1) := by decide +kernel
theorem dX12_lay_35 : decode cX12_lay 35 = .ok (.getfield 29, 3) := by decide +kernel
theorem dX12_lay_38 : decode cX12_lay 38 = .ok (.aload_n 0, 1) := by decide +kernel
theorem dX12_lay_39 : decode cX12_lay 39 = .ok (.getfield 119, 3) := by decide +kernel
theorem dX12_lay_42 : decode cX12_lay 42 = .ok (.iaload, 1) := by decide +kernel
theorem dX12_lay_43 : decode cX12_lay 43 = .ok (.isub, 1) := by decide +kernel
theorem dX12_lay_44 : decode cX12_lay 44 = .ok (.istore_n 2, 1) := by decide +kernel
theorem dX12_lay_45 : decode cX12_lay 45 = .ok (.aload_n 0, 1) := by decide +kernel
theorem dX12_lay_46 : decode cX12_lay 46 = .ok (.getfield 119, 3) := by decide +kernel
theorem dX12_lay_49 : decode cX12_lay 49 = .ok (.iconst 1, 1) := by decide +kernel
theorem dX12_lay_50 : decode cX12_lay 50 = .ok (.isub, 1) := by decide +kernel
theorem dX12_lay_51 : decode cX12_lay 51 = .ok (.istore_n 3, 1) := by decide +kernel
theorem dX12_lay_52 : decode cX12_lay 52 = .ok (.iload_n 3, 1) := by decide +kernel
theorem dX12_lay_53 : decode cX12_lay 53 = .ok (.ifCond .lt 28, 3) := by decide +kernel
theorem dX12_lay_56 : decode cX12_lay 56 = .ok (.aload_n 0, 1) := by decide +kernel
theorem dX12_lay_57 : decode cX12_lay 57 = .ok (.getfield 35, 3) := by decide +kernel
theorem dX12_lay_60 : decode cX12_lay 60 = .ok (.iload_n 3, 1) := by decide +kernel
theorem dX12_lay_61 : decode cX12_lay 61 = .ok (.iload_n 2, 1) := by decide +kernel
theorem dX12_lay_62 : decode cX12_lay 62 = .ok (.aload_n 0, 1) := by decide +kernel
theorem dX12_lay_63 : decode cX12_lay 63 = .ok (.getfield 7, 3) := by decide +kernel
theorem dX12_lay_66 : decode cX12_lay 66 = .ok (.irem, 1) := by decide +kernel
theorem dX12_lay_67 : decode cX12_lay 67 = .ok (.iastore, 1) := by decide +kernel
theorem dX12_lay_68 : decode cX12_lay 68 = .ok (.iload_n 2, 1) := by decide +kernel
theorem dX12_lay_69 : decode cX12_lay 69 = .ok (.aload_n 0, 1) := by decide +kernel
theorem dX12_lay_70 : decode cX12_lay 70 = .ok (.getfield 7, 3) := by decide +kernel
theorem dX12_lay_73 : decode cX12_lay 73 = .ok (.idiv, 1) := by decide +kernel
theorem dX12_lay_74 : decode cX12_lay 74 = .ok (.istore_n 2, 1) := by decide +kernel
theorem dX12_lay_75 : decode cX12_lay 75 = .ok (.iinc 3 (-1), 3) := by decide +kernel
theorem dX12_lay_78 : decode cX12_lay 78 = .ok (.goto (-26), 3) := by decide +kernel
theorem dX12_lay_81 : decode cX12_lay 81 = .ok (.return_, 1) := by decide +kernel
set_option maxRecDepth 20000 in
theorem ggX12_layAny_X12_lay : GoodIn wsX12_layAny wsX12_lay := goodIn_r _ [8, 2, 9, 3, 1, 10, 11, 12, 13, 14, 15, 16, 17, 18, 19, 20, 21, 22, 23, 24, 25, 26, 27, 28, 29, 30, 31, 32, 33, 34, 35, 36, 37, 38, 39, 40, 41, 42, 43] (by decide +kernel) (by decide +kernel)
set_option maxRecDepth 20000 in
theorem gX12_layAny_X12_lay : GoodIn wsX12_layAny (wsV RX12 132 RX12 yX12_lay wsX12_lay) := goodIn_app (goodIn_of _ (by decide +kernel)) ggX12_layAny_X12_lay
theorem dX12_layAny_0 : decode cX12_layAny 0 = .ok (.aload_n 0, 1) := by decide +kernel
theorem dX12_layAny_1 : decode cX12_layAny 1 = .ok (.getfield 7, 3) := by decide +kernel
theorem dX12_layAny_4 : decode cX12_layAny 4 = .ok (.iconst 1, 1) := by decide +kernel
theorem dX12_layAny_5 : decode cX12_layAny 5 = .ok (.if_icmp .ne 37, 3) := by decide +kernel
theorem dX12_layAny_8 : decode cX12_layAny 8 = .ok (.aload_n 0, 1) := by decide +kernel
theorem dX12_layAny_9 : decode cX12_layAny 9 = .ok (.iload_n 1, 1) := by decide +kernel
theorem dX12_layAny_10 : decode cX12_layAny 10 = .ok (.putfield 119, 3) := by decide +kernel
theorem dX12_layAny_13 : decode cX12_layAny 13 = .ok (.iconst 0, 1) := by decide +kernel
theorem dX12_layAny_14 : decode cX12_layAny 14 = .ok (.istore_n 2, 1) := by decide +kernel
theorem dX12_layAny_15 : decode cX12_layAny 15 = .ok (.iload_n 2, 1) := by decide +kernel
theorem dX12_layAny_16 : decode cX12_layAny 16 = .ok (.iload_n 1, 1) := by decide +kernel
theorem dX12_layAny_17 : decode cX12_layAny 17 = .ok (.if_icmp .ge 22, 3) := by decide +kernel
theorem dX12_layAny_20 : decode cX12_layAny 20 = .ok (.iload_n 2, 1) := by decide +kernel
theorem dX12_layAny_21 : decode cX12_layAny 21 = .ok (.bipush 64, 2) := by decide +kernel
theorem dX12_layAny_23 : decode cX12_layAny 23 = .ok (.if_icmp .ge 16, 3) := by decide +kernel
theorem dX12_layAny_26 : decode cX12_layAny 26 = .ok (.aload_n 0, 1) := by decide +kernel
theorem dX12_layAny_27 : decode cX12_layAny 27 = .ok (.getfield 35, 3) := by decide +kernel
theorem dX12_layAny_30 : decode cX12_layAny 30 = .ok (.iload_n 2, 1) := by decide +kernel
theorem dX12_layAny_31 : decode cX12_layAny 31 = .ok (.iconst 0, 1) := by decide +kernel
theorem dX12_layAny_32 : decode cX12_layAny 32 = .ok (.iastore, 1) := by decide +kernel
theorem dX12_layAny_33 : decode cX12_layAny 33 = .ok (.iinc 2 1, 3) := by decide +kernel
theorem dX12_layAny_36 : decode cX12_layAny 36 = .ok (.goto (-21), 3) := by decide +kernel
theorem dX12_layAny_39 : decode cX12_layAny 39 = .ok (.goto 8, 3) := by decide +kernel
theorem dX12_layAny_42 : decode cX12_layAny 42 = .ok (.aload_n 0, 1) := by decide +kernel
theorem dX12_layAny_43 : decode cX12_layAny 43 = .ok (.iload_n 1, 1) := by decide +kernel
theorem dX12_layAny_44 : decode cX12_layAny 44 = .ok (.invokevirtual 132, 3) := by decide +kernel
theorem dX12_layAny_47 : decode cX12_layAny 47 = .ok (.return_, 1) := by decide +kernel
set_option maxRecDepth 20000 in
theorem ggX12_leads_X12_isMachine : GoodIn wsX12_leads wsX12_isMachine := goodIn_r _ [7, 8, 9, 21, 22, 23, 24, 25, 26, 27, 28, 29, 30, 31, 32, 33, 34, 35, 36, 37, 38, 39, 40, 41, 42, 43, 44, 45, 46, 47, 48, 49, 50, 51, 52, 53, 54] (by decide +kernel) (by decide +kernel)
set_option maxRecDepth 20000 in
theorem gX12_leads_X12_isMachine : GoodIn wsX12_leads (wsV RX12 229 RX12 yX12_isMachine wsX12_isMachine) := goodIn_app (goodIn_of _ (by decide +kernel)) ggX12_leads_X12_isMachine
set_option maxRecDepth 20000 in
theorem ggX12_leads_X12_in : GoodIn wsX12_leads wsX12_in := goodIn_r _ [12] (by decide +kernel) (by decide +kernel)
set_option maxRecDepth 20000 in
theorem gX12_leads_X12_in : GoodIn wsX12_leads (va_wsS RX12 93 yX12_in wsX12_in) := goodIn_app (goodIn_of _ (by decide +kernel)) ggX12_leads_X12_in
set_option maxRecDepth 20000 in
theorem ggX12_leads_X12_next : GoodIn wsX12_leads wsX12_next := goodIn_r _ [16, 17, 18, 19, 20, 21, 22, 23, 24, 25, 26, 27, 28, 29, 30, 31, 32, 33, 34, 35, 36, 37, 38, 39, 40, 41, 42, 43, 44, 45, 46, 47, 48, 49, 50, 51, 52, 53, 54] rfl (by decide +kernel)
set_option maxRecDepth 20000 in
theorem gX12_leads_X12_next : GoodIn wsX12_leads (wsV RX12 226 RX12 yX12_next wsX12_next) := goodIn_app (goodIn_of _ (by decide +kernel)) ggX12_leads_X12_next
theorem dX12_leads_0 : decode cX12_leads 0 = .ok (.aload_n 0, 1) := by decide +kernel
theorem dX12_leads_1 : decode cX12_leads 1 = .ok (.invokevirtual 229, 3) := by decide +kernel
theorem dX12_leads_4 : decode cX12_leads 4 = .ok (.ifCond .ne 6, 3) := by decide +kernel
theorem dX12_leads_7 : decode cX12_leads 7 = .ok (.bipush (-3), 2) := by decide +kernel
theorem dX12_leads_9 : decode cX12_leads 9 = .ok (.ireturn, 1) := by decide +kernel
theorem dX12_leads_10 : decode cX12_leads 10 = .ok (.iload_n 1, 1) := by decide +kernel
theorem dX12_leads_11 : decode cX12_leads 11 = .ok (.i2l, 1) := by decide +kernel
theorem dX12_leads_12 : decode cX12_leads 12 = .ok (.lconst 0, 1) := by decide +kernel
theorem dX12_leads_13 : decode cX12_leads 13 = .ok (.aload_n 0, 1) := by decide +kernel
theorem dX12_leads_14 : decode cX12_leads 14 = .ok (.getfield 164, 3) := by decide +kernel
theorem dX12_leads_17 : decode cX12_leads 17 = .ok (.iconst 1, 1) := by decide +kernel
theorem dX12_leads_18 : decode cX12_leads 18 = .ok (.isub, 1) := by decide +kernel
theorem dX12_leads_19 : decode cX12_leads 19 = .ok (.i2l, 1) := by decide +kernel
theorem dX12_leads_20 : decode cX12_leads 20 = .ok (.invokestatic 93, 3) := by decide +kernel
theorem dX12_leads_23 : decode cX12_leads 23 = .ok (.ifCond .eq 28, 3) := by decide +kernel
theorem dX12_leads_26 : decode cX12_leads 26 = .ok (.iload_n 2, 1) := by decide +kernel
theorem dX12_leads_27 : decode cX12_leads 27 = .ok (.i2l, 1) := by decide +kernel
theorem dX12_leads_28 : decode cX12_leads 28 = .ok (.lconst 0, 1) := by decide +kernel
theorem dX12_leads_29 : decode cX12_leads 29 = .ok (.aload_n 0, 1) := by decide +kernel
theorem dX12_leads_30 : decode cX12_leads 30 = .ok (.getfield 7, 3) := by decide +kernel
theorem dX12_leads_33 : decode cX12_leads 33 = .ok (.iconst 1, 1) := by decide +kernel
theorem dX12_leads_34 : decode cX12_leads 34 = .ok (.isub, 1) := by decide +kernel
theorem dX12_leads_35 : decode cX12_leads 35 = .ok (.i2l, 1) := by decide +kernel
theorem dX12_leads_36 : decode cX12_leads 36 = .ok (.invokestatic 93, 3) := by decide +kernel
theorem dX12_leads_39 : decode cX12_leads 39 = .ok (.ifCond .eq 12, 3) := by decide +kernel
theorem dX12_leads_42 : decode cX12_leads 42 = .ok (.aload_n 0, 1) := by decide +kernel
theorem dX12_leads_43 : decode cX12_leads 43 = .ok (.iload_n 1, 1) := by decide +kernel
theorem dX12_leads_44 : decode cX12_leads 44 = .ok (.iload_n 2, 1) := by decide +kernel
theorem dX12_leads_45 : decode cX12_leads 45 = .ok (.invokevirtual 226, 3) := by decide +kernel
theorem dX12_leads_48 : decode cX12_leads 48 = .ok (.goto 4, 3) := by decide +kernel
theorem dX12_leads_51 : decode cX12_leads 51 = .ok (.iconst (-1), 1) := by decide +kernel
theorem dX12_leads_52 : decode cX12_leads 52 = .ok (.ireturn, 1) := by decide +kernel
