set_option maxRecDepth 20000 in
theorem ggX8_codeOf_X8_spanOf : GoodIn wsX8_codeOf wsX8_spanOf := goodIn_r _ [6, 7, 8, 13, 14, 15, 16] (by decide +kernel) (by decide +kernel)
set_option maxRecDepth 20000 in
theorem gX8_codeOf_X8_spanOf : GoodIn wsX8_codeOf (wsV RX8 51 RX8 yX8_spanOf wsX8_spanOf) := goodIn_app (goodIn_of _ (by decide +kernel)) ggX8_codeOf_X8_spanOf
set_option maxRecDepth 20000 in
theorem ggX8_codeOf_X8_firstOf : GoodIn wsX8_codeOf wsX8_firstOf := goodIn_r _ [12, 7, 8, 13, 14, 15, 16] (by decide +kernel) (by decide +kernel)
set_option maxRecDepth 20000 in
theorem gX8_codeOf_X8_firstOf : GoodIn wsX8_codeOf (wsV RX8 43 RX8 yX8_firstOf wsX8_firstOf) := goodIn_app (goodIn_of _ (by decide +kernel)) ggX8_codeOf_X8_firstOf
theorem dX8_codeOf_0 : decode cX8_codeOf 0 = .ok (.aload_n 0, 1) := by decide +kernel
theorem dX8_codeOf_1 : decode cX8_codeOf 1 = .ok (.iload_n 1, 1) := by decide +kernel
theorem dX8_codeOf_2 : decode cX8_codeOf 2 = .ok (.invokevirtual 51, 3) := by decide +kernel
theorem dX8_codeOf_5 : decode cX8_codeOf 5 = .ok (.istore_n 2, 1) := by decide +kernel
theorem dX8_codeOf_6 : decode cX8_codeOf 6 = .ok (.iload_n 1, 1) := by decide +kernel
theorem dX8_codeOf_7 : decode cX8_codeOf 7 = .ok (.aload_n 0, 1) := by decide +kernel
theorem dX8_codeOf_8 : decode cX8_codeOf 8 = .ok (.iload_n 2, 1) := by decide +kernel
theorem dX8_codeOf_9 : decode cX8_codeOf 9 = .ok (.invokevirtual 43, 3) := by decide +kernel
theorem dX8_codeOf_12 : decode cX8_codeOf 12 = .ok (.isub, 1) := by decide +kernel
theorem dX8_codeOf_13 : decode cX8_codeOf 13 = .ok (.istore_n 3, 1) := by decide +kernel
theorem dX8_codeOf_14 : decode cX8_codeOf 14 = .ok (.lconst 0, 1) := by decide +kernel
theorem dX8_codeOf_15 : decode cX8_codeOf 15 = .ok (.lstore 4, 2) := by decide +kernel
theorem dX8_codeOf_17 : decode cX8_codeOf 17 = .ok (.iconst 0, 1) := by decide +kernel
theorem dX8_codeOf_18 : decode cX8_codeOf 18 = .ok (.istore 6, 2) := by decide +kernel
theorem dX8_codeOf_20 : decode cX8_codeOf 20 = .ok (.iload 6, 2) := by decide +kernel
theorem dX8_codeOf_22 : decode cX8_codeOf 22 = .ok (.iload_n 2, 1) := by decide +kernel
theorem dX8_codeOf_23 : decode cX8_codeOf 23 = .ok (.if_icmp .ge 33, 3) := by decide +kernel
theorem dX8_codeOf_26 : decode cX8_codeOf 26 = .ok (.lload 4, 2) := by decide +kernel
theorem dX8_codeOf_28 : decode cX8_codeOf 28 = .ok (.iload_n 3, 1) := by decide +kernel
theorem dX8_codeOf_29 : decode cX8_codeOf 29 = .ok (.aload_n 0, 1) := by decide +kernel
theorem dX8_codeOf_30 : decode cX8_codeOf 30 = .ok (.getfield 28, 3) := by decide +kernel
theorem dX8_codeOf_33 : decode cX8_codeOf 33 = .ok (.irem, 1) := by decide +kernel
theorem dX8_codeOf_34 : decode cX8_codeOf 34 = .ok (.i2l, 1) := by decide +kernel
theorem dX8_codeOf_35 : decode cX8_codeOf 35 = .ok (.iconst 2, 1) := by decide +kernel
theorem dX8_codeOf_36 : decode cX8_codeOf 36 = .ok (.iload 6, 2) := by decide +kernel
theorem dX8_codeOf_38 : decode cX8_codeOf 38 = .ok (.imul, 1) := by decide +kernel
theorem dX8_codeOf_39 : decode cX8_codeOf 39 = .ok (.lshl, 1) := by decide +kernel
theorem dX8_codeOf_40 : decode cX8_codeOf 40 = .ok (.lor, 1) := by decide +kernel
theorem dX8_codeOf_41 : decode cX8_codeOf 41 = .ok (.lstore 4, 2) := by decide +kernel
theorem dX8_codeOf_43 : decode cX8_codeOf 43 = .ok (.iload_n 3, 1) := by decide +kernel
theorem dX8_codeOf_44 : decode cX8_codeOf 44 = .ok (.aload_n 0, 1) := by decide +kernel
theorem dX8_codeOf_45 : decode cX8_codeOf 45 = .ok (.getfield 28, 3) := by decide +kernel
theorem dX8_codeOf_48 : decode cX8_codeOf 48 = .ok (.idiv, 1) := by decide +kernel
theorem dX8_codeOf_49 : decode cX8_codeOf 49 = .ok (.istore_n 3, 1) := by decide +kernel
theorem dX8_codeOf_50 : decode cX8_codeOf 50 = .ok (.iinc 6 1, 3) := by decide +kernel
theorem dX8_codeOf_53 : decode cX8_codeOf 53 = .ok (.goto (-33), 3) := by decide +kernel
theorem dX8_codeOf_56 : decode cX8_codeOf 56 = .ok (.lload 4, 2) := by decide +kernel
theorem dX8_codeOf_58 : decode cX8_codeOf 58 = .ok (.lreturn, 1) := by decide +kernel
theorem dX8_countTo_0 : decode cX8_countTo 0 = .ok (.iload_n 1, 1) := by decide +kernel
theorem dX8_countTo_1 : decode cX8_countTo 1 = .ok (.ifCond .lt 22, 3) := by decide +kernel
theorem dX8_countTo_4 : decode cX8_countTo 4 = .ok (.iload_n 1, 1) := by decide +kernel
theorem dX8_countTo_5 : decode cX8_countTo 5 = .ok (.aload_n 0, 1) := by decide +kernel
theorem dX8_countTo_6 : decode cX8_countTo 6 = .ok (.getfield 32, 3) := by decide +kernel
theorem dX8_countTo_9 : decode cX8_countTo 9 = .ok (.if_icmp .gt 14, 3) := by decide +kernel
theorem dX8_countTo_12 : decode cX8_countTo 12 = .ok (.aload_n 0, 1) := by decide +kernel
theorem dX8_countTo_13 : decode cX8_countTo 13 = .ok (.getfield 15, 3) := by decide +kernel
theorem dX8_countTo_16 : decode cX8_countTo 16 = .ok (.iload_n 1, 1) := by decide +kernel
theorem dX8_countTo_17 : decode cX8_countTo 17 = .ok (.iconst 1, 1) := by decide +kernel
theorem dX8_countTo_18 : decode cX8_countTo 18 = .ok (.iadd, 1) := by decide +kernel
theorem dX8_countTo_19 : decode cX8_countTo 19 = .ok (.iaload, 1) := by decide +kernel
theorem dX8_countTo_20 : decode cX8_countTo 20 = .ok (.goto 4, 3) := by decide +kernel
theorem dX8_countTo_23 : decode cX8_countTo 23 = .ok (.iconst 0, 1) := by decide +kernel
theorem dX8_countTo_24 : decode cX8_countTo 24 = .ok (.ireturn, 1) := by decide +kernel
theorem dX8_firstOf_0 : decode cX8_firstOf 0 = .ok (.iload_n 1, 1) := by decide +kernel
theorem dX8_firstOf_1 : decode cX8_firstOf 1 = .ok (.ifCond .lt 20, 3) := by decide +kernel
theorem dX8_firstOf_4 : decode cX8_firstOf 4 = .ok (.iload_n 1, 1) := by decide +kernel
theorem dX8_firstOf_5 : decode cX8_firstOf 5 = .ok (.aload_n 0, 1) := by decide +kernel
theorem dX8_firstOf_6 : decode cX8_firstOf 6 = .ok (.getfield 32, 3) := by decide +kernel
theorem dX8_firstOf_9 : decode cX8_firstOf 9 = .ok (.if_icmp .gt 12, 3) := by decide +kernel
theorem dX8_firstOf_12 : decode cX8_firstOf 12 = .ok (.aload_n 0, 1) := by decide +kernel
theorem dX8_firstOf_13 : decode cX8_firstOf 13 = .ok (.getfield 15, 3) := by decide +kernel
theorem dX8_firstOf_16 : decode cX8_firstOf 16 = .ok (.iload_n 1, 1) := by decide +kernel
theorem dX8_firstOf_17 : decode cX8_firstOf 17 = .ok (.iaload, 1) := by decide +kernel
theorem dX8_firstOf_18 : decode cX8_firstOf 18 = .ok (.goto 4, 3) := by decide +kernel
theorem dX8_firstOf_21 : decode cX8_firstOf 21 = .ok (.iconst 0, 1) := by decide +kernel
theorem dX8_firstOf_22 : decode cX8_firstOf 22 = .ok (.ireturn, 1) := by decide +kernel
set_option maxRecDepth 20000 in
theorem ggX8_init_X8_setLetters : GoodIn wsX8_init wsX8_setLetters := goodIn_r _ [11, 12, 13, 14, 15, 16, 5, 6, 17, 18, 19, 20, 21] (by decide +kernel) (by decide +kernel)
set_option maxRecDepth 20000 in
theorem gX8_init_X8_setLetters : GoodIn wsX8_init (wsV RX8 18 RX8 yX8_setLetters wsX8_setLetters) := goodIn_app (goodIn_of _ (by decide +kernel)) ggX8_init_X8_setLetters
theorem dX8_init_0 : decode cX8_init 0 = .ok (.aload_n 0, 1) := by decide +kernel
theorem dX8_init_1 : decode cX8_init 1 = .ok (.invokespecial 3, 3) := by decide +kernel
theorem dX8_init_4 : decode cX8_init 4 = .ok (.aload_n 0, 1) := by decide +kernel
theorem dX8_init_5 : decode cX8_init 5 = .ok (.bipush 21, 2) := by decide +kernel
theorem dX8_init_7 : decode cX8_init 7 = .ok (.newarray .int, 2) := by decide +kernel
theorem dX8_init_9 : decode cX8_init 9 = .ok (.putfield 9, 3) := by decide +kernel
theorem dX8_init_12 : decode cX8_init 12 = .ok (.aload_n 0, 1) := by decide +kernel
theorem dX8_init_13 : decode cX8_init 13 = .ok (.bipush 22, 2) := by decide +kernel
theorem dX8_init_15 : decode cX8_init 15 = .ok (.newarray .int, 2) := by decide +kernel
theorem dX8_init_17 : decode cX8_init 17 = .ok (.putfield 15, 3) := by decide +kernel
theorem dX8_init_20 : decode cX8_init 20 = .ok (.aload_n 0, 1) := by decide +kernel
theorem dX8_init_21 : decode cX8_init 21 = .ok (.iload_n 1, 1) := by decide +kernel
theorem dX8_init_22 : decode cX8_init 22 = .ok (.invokevirtual 18, 3) := by decide +kernel
theorem dX8_init_25 : decode cX8_init 25 = .ok (.return_, 1) := by decide +kernel
set_option maxRecDepth 20000 in
theorem ggX8_numberOf_X8_firstOf : GoodIn wsX8_numberOf wsX8_firstOf := goodIn_r _ [6, 7, 8, 17, 18, 19, 20] (by decide +kernel) (by decide +kernel)
set_option maxRecDepth 20000 in
theorem gX8_numberOf_X8_firstOf : GoodIn wsX8_numberOf (wsV RX8 43 RX8 yX8_firstOf wsX8_firstOf) := goodIn_app (goodIn_of _ (by decide +kernel)) ggX8_numberOf_X8_firstOf
set_option maxRecDepth 20000 in
theorem ggX8_numberOf_X8_valueOf : GoodIn wsX8_numberOf wsX8_valueOf := goodIn_r _ [12, 1, 13, 14, 15, 16, 17, 18, 19, 20] (by decide +kernel) (by decide +kernel)
set_option maxRecDepth 20000 in
theorem gX8_numberOf_X8_valueOf : GoodIn wsX8_numberOf (wsV RX8 47 RX8 yX8_valueOf wsX8_valueOf) := goodIn_app (goodIn_of _ (by decide +kernel)) ggX8_numberOf_X8_valueOf
theorem dX8_numberOf_0 : decode cX8_numberOf 0 = .ok (.aload_n 0, 1) := by decide +kernel
theorem dX8_numberOf_1 : decode cX8_numberOf 1 = .ok (.aload_n 1, 1) := by decide +kernel
theorem dX8_numberOf_2 : decode cX8_numberOf 2 = .ok (.getfield 35, 3) := by decide +kernel
theorem dX8_numberOf_5 : decode cX8_numberOf 5 = .ok (.invokevirtual 43, 3) := by decide +kernel
theorem dX8_numberOf_8 : decode cX8_numberOf 8 = .ok (.aload_n 0, 1) := by decide +kernel
theorem dX8_numberOf_9 : decode cX8_numberOf 9 = .ok (.aload_n 1, 1) := by decide +kernel
theorem dX8_numberOf_10 : decode cX8_numberOf 10 = .ok (.invokevirtual 47, 3) := by decide +kernel
theorem dX8_numberOf_13 : decode cX8_numberOf 13 = .ok (.iadd, 1) := by decide +kernel
theorem dX8_numberOf_14 : decode cX8_numberOf 14 = .ok (.ireturn, 1) := by decide +kernel
theorem dX8_powerOf_0 : decode cX8_powerOf 0 = .ok (.iload_n 1, 1) := by decide +kernel
theorem dX8_powerOf_1 : decode cX8_powerOf 1 = .ok (.ifCond .lt 20, 3) := by decide +kernel
theorem dX8_powerOf_4 : decode cX8_powerOf 4 = .ok (.iload_n 1, 1) := by decide +kernel
theorem dX8_powerOf_5 : decode cX8_powerOf 5 = .ok (.aload_n 0, 1) := by decide +kernel
theorem dX8_powerOf_6 : decode cX8_powerOf 6 = .ok (.getfield 32, 3) := by decide +kernel
theorem dX8_powerOf_9 : decode cX8_powerOf 9 = .ok (.if_icmp .gt 12, 3) := by decide +kernel
theorem dX8_powerOf_12 : decode cX8_powerOf 12 = .ok (.aload_n 0, 1) := by decide +kernel
theorem dX8_powerOf_13 : decode cX8_powerOf 13 = .ok (.getfield 9, 3) := by decide +kernel
theorem dX8_powerOf_16 : decode cX8_powerOf 16 = .ok (.iload_n 1, 1) := by decide +kernel
theorem dX8_powerOf_17 : decode cX8_powerOf 17 = .ok (.iaload, 1) := by decide +kernel
theorem dX8_powerOf_18 : decode cX8_powerOf 18 = .ok (.goto 4, 3) := by decide +kernel
theorem dX8_powerOf_21 : decode cX8_powerOf 21 = .ok (.iconst 1, 1) := by decide +kernel
theorem dX8_powerOf_22 : decode cX8_powerOf 22 = .ok (.ireturn, 1) := by decide +kernel
theorem dX8_setLetters_0 : decode cX8_setLetters 0 = .ok (.aload_n 0, 1) := by decide +kernel
theorem dX8_setLetters_1 : decode cX8_setLetters 1 = .ok (.iload_n 1, 1) := by decide +kernel
theorem dX8_setLetters_2 : decode cX8_setLetters 2 = .ok (.iconst 1, 1) := by decide +kernel
theorem dX8_setLetters_3 : decode cX8_setLetters 3 = .ok (.invokestatic 22, 3) := by decide +kernel
theorem dX8_setLetters_6 : decode cX8_setLetters 6 = .ok (.putfield 28, 3) := by decide +kernel
theorem dX8_setLetters_9 : decode cX8_setLetters 9 = .ok (.iconst 0, 1) := by decide +kernel
theorem dX8_setLetters_10 : decode cX8_setLetters 10 = .ok (.istore_n 2, 1) := by decide +kernel
theorem dX8_setLetters_11 : decode cX8_setLetters 11 = .ok (.iconst 1, 1) := by decide +kernel
theorem dX8_setLetters_12 : decode cX8_setLetters 12 = .ok (.istore_n 3, 1) := by decide +kernel
theorem dX8_setLetters_13 : decode cX8_setLetters 13 = .ok (.iconst 0, 1) := by decide +kernel
theorem dX8_setLetters_14 : decode cX8_setLetters 14 = .ok (.istore 4, 2) := by decide +kernel
theorem dX8_setLetters_16 : decode cX8_setLetters 16 = .ok (.iload 4, 2) := by decide +kernel
theorem dX8_setLetters_18 : decode cX8_setLetters 18 = .ok (.bipush 20, 2) := by decide +kernel
theorem dX8_setLetters_20 : decode cX8_setLetters 20 = .ok (.if_icmp .gt 61, 3) := by decide +kernel
theorem dX8_setLetters_23 : decode cX8_setLetters 23 = .ok (.iload_n 2, 1) := by decide +kernel
theorem dX8_setLetters_24 : decode cX8_setLetters 24 = .ok (.iload_n 3, 1) := by decide +kernel
theorem dX8_setLetters_25 : decode cX8_setLetters 25 = .ok (.iadd, 1) := by decide +kernel
theorem dX8_setLetters_26 : decode cX8_setLetters 26 = .ok (.sipush 10000, 3) := by decide +kernel
theorem dX8_setLetters_29 : decode cX8_setLetters 29 = .ok (.if_icmp .gt 52, 3) := by decide +kernel
theorem dX8_setLetters_32 : decode cX8_setLetters 32 = .ok (.aload_n 0, 1) := by decide +kernel
theorem dX8_setLetters_33 : decode cX8_setLetters 33 = .ok (.getfield 9, 3) := by decide +kernel
theorem dX8_setLetters_36 : decode cX8_setLetters 36 = .ok (.iload 4, 2) := by decide +kernel
theorem dX8_setLetters_38 : decode cX8_setLetters 38 = .ok (.iload_n 3, 1) := by decide +kernel
theorem dX8_setLetters_39 : decode cX8_setLetters 39 = .ok (.iastore, 1) := by decide +kernel
theorem dX8_setLetters_40 : decode cX8_setLetters 40 = .ok (.aload_n 0, 1) := by decide +kernel
theorem dX8_setLetters_41 : decode cX8_setLetters 41 = .ok (.getfield 15, 3) := by decide +kernel
theorem dX8_setLetters_44 : decode cX8_setLetters 44 = .ok (.iload 4, 2) := by decide +kernel
theorem dX8_setLetters_46 : decode cX8_setLetters 46 = .ok (.iload_n 2, 1) := by decide +kernel
theorem dX8_setLetters_47 : decode cX8_setLetters 47 = .ok (.iastore, 1) := by decide +kernel
theorem dX8_setLetters_48 : decode cX8_setLetters 48 = .ok (.iload_n 2, 1) := by decide +kernel
theorem dX8_setLetters_49 : decode cX8_setLetters 49 = .ok (.iload_n 3, 1) := by decide +kernel
theorem dX8_setLetters_50 : decode cX8_setLetters 50 = .ok (.iadd, 1) := by decide +kernel
theorem dX8_setLetters_51 : decode cX8_setLetters 51 = .ok (.istore_n 2, 1) := by decide +kernel
theorem dX8_setLetters_52 : decode cX8_setLetters 52 = .ok (.iload_n 3, 1) := by decide +kernel
theorem dX8_setLetters_53 : decode cX8_setLetters 53 = .ok (.aload_n 0, 1) := by decide +kernel
theorem dX8_setLetters_54 : decode cX8_setLetters 54 = .ok (.getfield 28, 3) := by decide +kernel
theorem dX8_setLetters_57 : decode cX8_setLetters 57 = .ok (.imul, 1) := by decide +kernel
theorem dX8_setLetters_58 : decode cX8_setLetters 58 = .ok (.istore_n 3, 1) := by decide +kernel
theorem dX8_setLetters_59 : decode cX8_setLetters 59 = .ok (.aload_n 0, 1) := by decide +kernel
theorem dX8_setLetters_60 : decode cX8_setLetters 60 = .ok (.iload 4, 2) := by decide +kernel
theorem dX8_setLetters_62 : decode cX8_setLetters 62 = .ok (.putfield 32, 3) := by decide +kernel
theorem dX8_setLetters_65 : decode cX8_setLetters 65 = .ok (.aload_n 0, 1) := by decide +kernel
theorem dX8_setLetters_66 : decode cX8_setLetters 66 = .ok (.getfield 15, 3) := by decide +kernel
theorem dX8_setLetters_69 : decode cX8_setLetters 69 = .ok (.iload 4, 2) := by decide +kernel
theorem dX8_setLetters_71 : decode cX8_setLetters 71 = .ok (.iconst 1, 1) := by decide +kernel
theorem dX8_setLetters_72 : decode cX8_setLetters 72 = .ok (.iadd, 1) := by decide +kernel
theorem dX8_setLetters_73 : decode cX8_setLetters 73 = .ok (.iload_n 2, 1) := by decide +kernel
theorem dX8_setLetters_74 : decode cX8_setLetters 74 = .ok (.iastore, 1) := by decide +kernel
theorem dX8_setLetters_75 : decode cX8_setLetters 75 = .ok (.iinc 4 1, 3) := by decide +kernel
theorem dX8_setLetters_78 : decode cX8_setLetters 78 = .ok (.goto (-62), 3) := by decide +kernel
theorem dX8_setLetters_81 : decode cX8_setLetters 81 = .ok (.return_, 1) := by decide +kernel
theorem dX8_spanOf_0 : decode cX8_spanOf 0 = .ok (.iconst 0, 1) := by decide +kernel
theorem dX8_spanOf_1 : decode cX8_spanOf 1 = .ok (.istore_n 2, 1) := by decide +kernel
theorem dX8_spanOf_2 : decode cX8_spanOf 2 = .ok (.iload_n 2, 1) := by decide +kernel
theorem dX8_spanOf_3 : decode cX8_spanOf 3 = .ok (.aload_n 0, 1) := by decide +kernel
theorem dX8_spanOf_4 : decode cX8_spanOf 4 = .ok (.getfield 32, 3) := by decide +kernel
theorem dX8_spanOf_7 : decode cX8_spanOf 7 = .ok (.if_icmp .ge 21, 3) := by decide +kernel
theorem dX8_spanOf_10 : decode cX8_spanOf 10 = .ok (.aload_n 0, 1) := by decide +kernel
theorem dX8_spanOf_11 : decode cX8_spanOf 11 = .ok (.getfield 15, 3) := by decide +kernel
theorem dX8_spanOf_14 : decode cX8_spanOf 14 = .ok (.iload_n 2, 1) := by decide +kernel
theorem dX8_spanOf_15 : decode cX8_spanOf 15 = .ok (.iconst 1, 1) := by decide +kernel
theorem dX8_spanOf_16 : decode cX8_spanOf 16 = .ok (.iadd, 1) := by decide +kernel
theorem dX8_spanOf_17 : decode cX8_spanOf 17 = .ok (.iaload, 1) := by decide +kernel
theorem dX8_spanOf_18 : decode cX8_spanOf 18 = .ok (.iload_n 1, 1) := by decide +kernel
theorem dX8_spanOf_19 : decode cX8_spanOf 19 = .ok (.if_icmp .gt 9, 3) := by decide +kernel
theorem dX8_spanOf_22 : decode cX8_spanOf 22 = .ok (.iinc 2 1, 3) := by decide +kernel
theorem dX8_spanOf_25 : decode cX8_spanOf 25 = .ok (.goto (-23), 3) := by decide +kernel
theorem dX8_spanOf_28 : decode cX8_spanOf 28 = .ok (.iload_n 2, 1) := by decide +kernel
theorem dX8_spanOf_29 : decode cX8_spanOf 29 = .ok (.ireturn, 1) := by decide +kernel
theorem dX8_valueOf_0 : decode cX8_valueOf 0 = .ok (.iconst 0, 1) := by decide +kernel
theorem dX8_valueOf_1 : decode cX8_valueOf 1 = .ok (.istore_n 2, 1) := by decide +kernel
theorem dX8_valueOf_2 : decode cX8_valueOf 2 = .ok (.iconst 0, 1) := by decide +kernel
theorem dX8_valueOf_3 : decode cX8_valueOf 3 = .ok (.istore_n 3, 1) := by decide +kernel
theorem dX8_valueOf_4 : decode cX8_valueOf 4 = .ok (.iload_n 3, 1) := by decide +kernel
theorem dX8_valueOf_5 : decode cX8_valueOf 5 = .ok (.aload_n 1, 1) := by decide +kernel
theorem dX8_valueOf_6 : decode cX8_valueOf 6 = .ok (.getfield 35, 3) := by decide +kernel
theorem dX8_valueOf_9 : decode cX8_valueOf 9 = .ok (.if_icmp .ge 23, 3) := by decide +kernel
theorem dX8_valueOf_12 : decode cX8_valueOf 12 = .ok (.iload_n 2, 1) := by decide +kernel
theorem dX8_valueOf_13 : decode cX8_valueOf 13 = .ok (.aload_n 0, 1) := by decide +kernel
theorem dX8_valueOf_14 : decode cX8_valueOf 14 = .ok (.getfield 28, 3) := by decide +kernel
theorem dX8_valueOf_17 : decode cX8_valueOf 17 = .ok (.imul, 1) := by decide +kernel
theorem dX8_valueOf_18 : decode cX8_valueOf 18 = .ok (.aload_n 1, 1) := by decide +kernel
theorem dX8_valueOf_19 : decode cX8_valueOf 19 = .ok (.getfield 40, 3) := by decide +kernel
theorem dX8_valueOf_22 : decode cX8_valueOf 22 = .ok (.iload_n 3, 1) := by decide +kernel
theorem dX8_valueOf_23 : decode cX8_valueOf 23 = .ok (.iaload, 1) := by decide +kernel
theorem dX8_valueOf_24 : decode cX8_valueOf 24 = .ok (.iadd, 1) := by decide +kernel
theorem dX8_valueOf_25 : decode cX8_valueOf 25 = .ok (.istore_n 2, 1) := by decide +kernel
theorem dX8_valueOf_26 : decode cX8_valueOf 26 = .ok (.iinc 3 1, 3) := by decide +kernel
theorem dX8_valueOf_29 : decode cX8_valueOf 29 = .ok (.goto (-25), 3) := by decide +kernel
theorem dX8_valueOf_32 : decode cX8_valueOf 32 = .ok (.iload_n 2, 1) := by decide +kernel
theorem dX8_valueOf_33 : decode cX8_valueOf 33 = .ok (.ireturn, 1) := by decide +kernel
set_option maxRecDepth 20000 in
theorem ggX8_write_X8_codeOf : GoodIn wsX8_write wsX8_codeOf := goodIn_r _ [5, 6, 7, 8, 9, 4, 10, 11, 12, 13, 14, 15, 16, 28, 29, 30, 31] (by decide +kernel) (by decide +kernel)
set_option maxRecDepth 20000 in
theorem gX8_write_X8_codeOf : GoodIn wsX8_write (wsV RX8 54 RX8 yX8_codeOf wsX8_codeOf) := goodIn_app (goodIn_of _ (by decide +kernel)) ggX8_write_X8_codeOf
set_option maxRecDepth 20000 in
theorem ggX8_write_X10_wipe : GoodIn wsX8_write wsX10_wipe := goodIn_r _ [21, 22, 32, 33] (by decide +kernel) (by decide +kernel)
set_option maxRecDepth 20000 in
theorem gX8_write_X10_wipe : GoodIn wsX8_write (wsV RX8 58 RX10 yX10_wipe wsX10_wipe) := goodIn_app (goodIn_of _ (by decide +kernel)) ggX8_write_X10_wipe
set_option maxRecDepth 20000 in
theorem ggX8_write_X8_spanOf : GoodIn wsX8_write wsX8_spanOf := goodIn_r _ [10, 11, 12, 28, 29, 30, 31] (by decide +kernel) (by decide +kernel)
set_option maxRecDepth 20000 in
theorem gX8_write_X8_spanOf : GoodIn wsX8_write (wsV RX8 51 RX8 yX8_spanOf wsX8_spanOf) := goodIn_app (goodIn_of _ (by decide +kernel)) ggX8_write_X8_spanOf
set_option maxRecDepth 20000 in
theorem ggX8_write_X10_push : GoodIn wsX8_write wsX10_push := goodIn_r _ [26, 22, 27, 32, 33] (by decide +kernel) (by decide +kernel)
set_option maxRecDepth 20000 in
theorem gX8_write_X10_push : GoodIn wsX8_write (wsV RX8 61 RX10 yX10_push wsX10_push) := goodIn_app (goodIn_of _ (by decide +kernel)) ggX8_write_X10_push
theorem dX8_write_0 : decode cX8_write 0 = .ok (.aload_n 0, 1) := by decide +kernel
theorem dX8_write_1 : decode cX8_write 1 = .ok (.iload_n 1, 1) := by decide +kernel
theorem dX8_write_2 : decode cX8_write 2 = .ok (.invokevirtual 54, 3) := by decide +kernel
theorem dX8_write_5 : decode cX8_write 5 = .ok (.lstore_n 3, 1) := by decide +kernel
theorem dX8_write_6 : decode cX8_write 6 = .ok (.aload_n 2, 1) := by decide +kernel
theorem dX8_write_7 : decode cX8_write 7 = .ok (.invokevirtual 58, 3) := by decide +kernel
theorem dX8_write_10 : decode cX8_write 10 = .ok (.aload_n 0, 1) := by decide +kernel
theorem dX8_write_11 : decode cX8_write 11 = .ok (.iload_n 1, 1) := by decide +kernel
theorem dX8_write_12 : decode cX8_write 12 = .ok (.invokevirtual 51, 3) := by decide +kernel
theorem dX8_write_15 : decode cX8_write 15 = .ok (.iconst 1, 1) := by decide +kernel
theorem dX8_write_16 : decode cX8_write 16 = .ok (.isub, 1) := by decide +kernel
theorem dX8_write_17 : decode cX8_write 17 = .ok (.istore 5, 2) := by decide +kernel
theorem dX8_write_19 : decode cX8_write 19 = .ok (.iload 5, 2) := by decide +kernel
theorem dX8_write_21 : decode cX8_write 21 = .ok (.ifCond .lt 23, 3) := by decide +kernel
theorem dX8_write_24 : decode cX8_write 24 = .ok (.aload_n 2, 1) := by decide +kernel
theorem dX8_write_25 : decode cX8_write 25 = .ok (.lload_n 3, 1) := by decide +kernel
theorem dX8_write_26 : decode cX8_write 26 = .ok (.iconst 2, 1) := by decide +kernel
theorem dX8_write_27 : decode cX8_write 27 = .ok (.iload 5, 2) := by decide +kernel
theorem dX8_write_29 : decode cX8_write 29 = .ok (.imul, 1) := by decide +kernel
theorem dX8_write_30 : decode cX8_write 30 = .ok (.lshr, 1) := by decide +kernel
theorem dX8_write_31 : decode cX8_write 31 = .ok (.l2i, 1) := by decide +kernel
theorem dX8_write_32 : decode cX8_write 32 = .ok (.iconst 3, 1) := by decide +kernel
theorem dX8_write_33 : decode cX8_write 33 = .ok (.iand, 1) := by decide +kernel
theorem dX8_write_34 : decode cX8_write 34 = .ok (.invokevirtual 61, 3) := by decide +kernel
theorem dX8_write_37 : decode cX8_write 37 = .ok (.pop, 1) := by decide +kernel
theorem dX8_write_38 : decode cX8_write 38 = .ok (.iinc 5 (-1), 3) := by decide +kernel
theorem dX8_write_41 : decode cX8_write 41 = .ok (.goto (-22), 3) := by decide +kernel
theorem dX8_write_44 : decode cX8_write 44 = .ok (.return_, 1) := by decide +kernel
set_option maxRecDepth 20000 in
theorem ggX9_advance_X9_seek : GoodIn wsX9_advance wsX9_seek := goodIn_r _ [8, 9, 1, 3, 10, 11, 2, 12, 13, 14, 15, 16, 17, 18, 19, 20, 21, 22, 23, 24, 32, 33, 34, 35, 36, 37, 38, 39, 40, 41, 42, 43, 44, 45, 46, 47, 48, 49, 50] (by decide +kernel) (by decide +kernel)
set_option maxRecDepth 20000 in
theorem gX9_advance_X9_seek : GoodIn wsX9_advance (wsV RX9 35 RX9 yX9_seek wsX9_seek) := goodIn_app (goodIn_of _ (by decide +kernel)) ggX9_advance_X9_seek
set_option maxRecDepth 20000 in
theorem ggX9_advance_X10_push : GoodIn wsX9_advance wsX10_push := goodIn_r _ [29, 30, 31, 35, 36] (by decide +kernel) (by decide +kernel)
set_option maxRecDepth 20000 in
theorem gX9_advance_X10_push : GoodIn wsX9_advance (wsV RX9 39 RX10 yX10_push wsX10_push) := goodIn_app (goodIn_of _ (by decide +kernel)) ggX9_advance_X10_push
theorem dX9_advance_0 : decode cX9_advance 0 = .ok (.aload_n 0, 1) := by decide +kernel
theorem dX9_advance_1 : decode cX9_advance 1 = .ok (.aload_n 0, 1) := by decide +kernel
theorem dX9_advance_2 : decode cX9_advance 2 = .ok (.getfield 24, 3) := by decide +kernel
theorem dX9_advance_5 : decode cX9_advance 5 = .ok (.getfield 31, 3) := by decide +kernel
theorem dX9_advance_8 : decode cX9_advance 8 = .ok (.iconst 1, 1) := by decide +kernel
theorem dX9_advance_9 : decode cX9_advance 9 = .ok (.isub, 1) := by decide +kernel
theorem dX9_advance_10 : decode cX9_advance 10 = .ok (.invokevirtual 35, 3) := by decide +kernel
theorem dX9_advance_13 : decode cX9_advance 13 = .ok (.ifCond .eq 5, 3) := by decide +kernel
theorem dX9_advance_16 : decode cX9_advance 16 = .ok (.iconst 1, 1) := by decide +kernel
theorem dX9_advance_17 : decode cX9_advance 17 = .ok (.ireturn, 1) := by decide +kernel
theorem dX9_advance_18 : decode cX9_advance 18 = .ok (.aload_n 0, 1) := by decide +kernel
theorem dX9_advance_19 : decode cX9_advance 19 = .ok (.getfield 24, 3) := by decide +kernel
theorem dX9_advance_22 : decode cX9_advance 22 = .ok (.iconst 0, 1) := by decide +kernel
theorem dX9_advance_23 : decode cX9_advance 23 = .ok (.invokevirtual 39, 3) := by decide +kernel
theorem dX9_advance_26 : decode cX9_advance 26 = .ok (.ifCond .ne 5, 3) := by decide +kernel
theorem dX9_advance_29 : decode cX9_advance 29 = .ok (.iconst 0, 1) := by decide +kernel
theorem dX9_advance_30 : decode cX9_advance 30 = .ok (.ireturn, 1) := by decide +kernel
theorem dX9_advance_31 : decode cX9_advance 31 = .ok (.aload_n 0, 1) := by decide +kernel
theorem dX9_advance_32 : decode cX9_advance 32 = .ok (.getfield 24, 3) := by decide +kernel
theorem dX9_advance_35 : decode cX9_advance 35 = .ok (.getfield 42, 3) := by decide +kernel
theorem dX9_advance_38 : decode cX9_advance 38 = .ok (.iconst 0, 1) := by decide +kernel
theorem dX9_advance_39 : decode cX9_advance 39 = .ok (.iconst (-1), 1) := by decide +kernel
theorem dX9_advance_40 : decode cX9_advance 40 = .ok (.iastore, 1) := by decide +kernel
theorem dX9_advance_41 : decode cX9_advance 41 = .ok (.aload_n 0, 1) := by decide +kernel
theorem dX9_advance_42 : decode cX9_advance 42 = .ok (.iconst 0, 1) := by decide +kernel
theorem dX9_advance_43 : decode cX9_advance 43 = .ok (.invokevirtual 35, 3) := by decide +kernel
theorem dX9_advance_46 : decode cX9_advance 46 = .ok (.ireturn, 1) := by decide +kernel
set_option maxRecDepth 20000 in
theorem ggX9_begin_X10_wipe : GoodIn wsX9_begin wsX10_wipe := goodIn_r _ [7, 8, 12, 13] (by decide +kernel) (by decide +kernel)
set_option maxRecDepth 20000 in
theorem gX9_begin_X10_wipe : GoodIn wsX9_begin (wsV RX9 28 RX10 yX10_wipe wsX10_wipe) := goodIn_app (goodIn_of _ (by decide +kernel)) ggX9_begin_X10_wipe
theorem dX9_begin_0 : decode cX9_begin 0 = .ok (.aload_n 0, 1) := by decide +kernel
theorem dX9_begin_1 : decode cX9_begin 1 = .ok (.getfield 24, 3) := by decide +kernel
theorem dX9_begin_4 : decode cX9_begin 4 = .ok (.invokevirtual 28, 3) := by decide +kernel
theorem dX9_begin_7 : decode cX9_begin 7 = .ok (.aload_n 0, 1) := by decide +kernel
theorem dX9_begin_8 : decode cX9_begin 8 = .ok (.getfield 15, 3) := by decide +kernel
theorem dX9_begin_11 : decode cX9_begin 11 = .ok (.iconst 0, 1) := by decide +kernel
theorem dX9_begin_12 : decode cX9_begin 12 = .ok (.iconst 0, 1) := by decide +kernel
theorem dX9_begin_13 : decode cX9_begin 13 = .ok (.iastore, 1) := by decide +kernel
theorem dX9_begin_14 : decode cX9_begin 14 = .ok (.return_, 1) := by decide +kernel
set_option maxRecDepth 20000 in
theorem ggX9_init_X10_init : GoodIn wsX9_init wsX10_init := goodIn_r _ [13, 14, 2, 3, 15, 16, 17, 18, 5, 19, 23, 24] (by decide +kernel) (by decide +kernel)
set_option maxRecDepth 20000 in
theorem gX9_init_X10_init : GoodIn wsX9_init (wsX10_init) := ggX9_init_X10_init
theorem dX9_init_0 : decode cX9_init 0 = .ok (.aload_n 0, 1) := by decide +kernel
theorem dX9_init_1 : decode cX9_init 1 = .ok (.invokespecial 3, 3) := by decide +kernel
theorem dX9_init_4 : decode cX9_init 4 = .ok (.aload_n 0, 1) := by decide +kernel
theorem dX9_init_5 : decode cX9_init 5 = .ok (.aload_n 1, 1) := by decide +kernel
theorem dX9_init_6 : decode cX9_init 6 = .ok (.putfield 9, 3) := by decide +kernel
theorem dX9_init_9 : decode cX9_init 9 = .ok (.aload_n 0, 1) := by decide +kernel
theorem dX9_init_10 : decode cX9_init 10 = .ok (.bipush 31, 2) := by decide +kernel
theorem dX9_init_12 : decode cX9_init 12 = .ok (.newarray .int, 2) := by decide +kernel
theorem dX9_init_14 : decode cX9_init 14 = .ok (.putfield 15, 3) := by decide +kernel
theorem dX9_init_17 : decode cX9_init 17 = .ok (.aload_n 0, 1) := by decide +kernel
theorem dX9_init_18 : decode cX9_init 18 = .ok (.new 19, 3) := by decide +kernel
theorem dX9_init_21 : decode cX9_init 21 = .ok (.dup, 1) := by decide +kernel
theorem dX9_init_22 : decode cX9_init 22 = .ok (.bipush 30, 2) := by decide +kernel
theorem dX9_init_24 : decode cX9_init 24 = .ok (.invokespecial 21, 3) := by decide +kernel
theorem dX9_init_27 : decode cX9_init 27 = .ok (.putfield 24, 3) := by decide +kernel
theorem dX9_init_30 : decode cX9_init 30 = .ok (.return_, 1) := by decide +kernel
set_option maxRecDepth 20000 in
theorem ggX9_seek_X3_letterCount : GoodIn wsX9_seek wsX3_letterCount := goodIn_r _ [11, 12, 13, 25, 26, 27, 28, 29, 30, 31, 32, 33, 34, 35, 36, 37, 38] (by decide +kernel) (by decide +kernel)
set_option maxRecDepth 20000 in
theorem gX9_seek_X3_letterCount : GoodIn wsX9_seek (wsV RX9 46 RX3 yX3_letterCount wsX3_letterCount) := goodIn_app (goodIn_of _ (by decide +kernel)) ggX9_seek_X3_letterCount
set_option maxRecDepth 20000 in
theorem ggX9_seek_X3_step : GoodIn wsX9_seek wsX3_step := goodIn_r _ [17, 12, 13, 18, 19, 25, 26, 27, 28, 29, 30, 31, 32, 33, 34, 35, 36, 37, 38] (by decide +kernel) (by decide +kernel)
set_option maxRecDepth 20000 in
theorem gX9_seek_X3_step : GoodIn wsX9_seek (wsV RX9 52 RX3 yX3_step wsX3_step) := goodIn_app (goodIn_of _ (by decide +kernel)) ggX9_seek_X3_step
theorem dX9_seek_0 : decode cX9_seek 0 = .ok (.iload_n 1, 1) := by decide +kernel
theorem dX9_seek_1 : decode cX9_seek 1 = .ok (.istore_n 2, 1) := by decide +kernel
theorem dX9_seek_2 : decode cX9_seek 2 = .ok (.iconst 0, 1) := by decide +kernel
theorem dX9_seek_3 : decode cX9_seek 3 = .ok (.istore_n 3, 1) := by decide +kernel
theorem dX9_seek_4 : decode cX9_seek 4 = .ok (.iload_n 3, 1) := by decide +kernel
theorem dX9_seek_5 : decode cX9_seek 5 = .ok (.ldc 45, 2) := by decide +kernel
theorem dX9_seek_7 : decode cX9_seek 7 = .ok (.if_icmp .ge 140, 3) := by decide +kernel
theorem dX9_seek_10 : decode cX9_seek 10 = .ok (.iload_n 2, 1) := by decide +kernel
theorem dX9_seek_11 : decode cX9_seek 11 = .ok (.ifCond .lt 136, 3) := by decide +kernel
theorem dX9_seek_14 : decode cX9_seek 14 = .ok (.aload_n 0, 1) := by decide +kernel
theorem dX9_seek_15 : decode cX9_seek 15 = .ok (.getfield 24, 3) := by decide +kernel
theorem dX9_seek_18 : decode cX9_seek 18 = .ok (.getfield 42, 3) := by decide +kernel
theorem dX9_seek_21 : decode cX9_seek 21 = .ok (.iload_n 2, 1) := by decide +kernel
theorem dX9_seek_22 : decode cX9_seek 22 = .ok (.iaload, 1) := by decide +kernel
theorem dX9_seek_23 : decode cX9_seek 23 = .ok (.iconst 1, 1) := by decide +kernel
theorem dX9_seek_24 : decode cX9_seek 24 = .ok (.iadd, 1) := by decide +kernel
theorem dX9_seek_25 : decode cX9_seek 25 = .ok (.istore 4, 2) := by decide +kernel
theorem dX9_seek_27 : decode cX9_seek 27 = .ok (.iload 4, 2) := by decide +kernel
theorem dX9_seek_29 : decode cX9_seek 29 = .ok (.aload_n 0, 1) := by decide +kernel
theorem dX9_seek_30 : decode cX9_seek 30 = .ok (.getfield 9, 3) := by decide +kernel
theorem dX9_seek_33 : decode cX9_seek 33 = .ok (.invokevirtual 46, 3) := by decide +kernel
theorem dX9_seek_36 : decode cX9_seek 36 = .ok (.if_icmp .ge 27, 3) := by decide +kernel
theorem dX9_seek_39 : decode cX9_seek 39 = .ok (.aload_n 0, 1) := by decide +kernel
theorem dX9_seek_40 : decode cX9_seek 40 = .ok (.getfield 9, 3) := by decide +kernel
theorem dX9_seek_43 : decode cX9_seek 43 = .ok (.aload_n 0, 1) := by decide +kernel
theorem dX9_seek_44 : decode cX9_seek 44 = .ok (.getfield 15, 3) := by decide +kernel
theorem dX9_seek_47 : decode cX9_seek 47 = .ok (.iload_n 2, 1) := by decide +kernel
theorem dX9_seek_48 : decode cX9_seek 48 = .ok (.iaload, 1) := by decide +kernel
theorem dX9_seek_49 : decode cX9_seek 49 = .ok (.iload 4, 2) := by decide +kernel
theorem dX9_seek_51 : decode cX9_seek 51 = .ok (.invokevirtual 52, 3) := by decide +kernel
theorem dX9_seek_54 : decode cX9_seek 54 = .ok (.ifCond .ge 9, 3) := by decide +kernel
theorem dX9_seek_57 : decode cX9_seek 57 = .ok (.iinc 4 1, 3) := by decide +kernel
theorem dX9_seek_60 : decode cX9_seek 60 = .ok (.goto (-33), 3) := by decide +kernel
theorem dX9_seek_63 : decode cX9_seek 63 = .ok (.iload 4, 2) := by decide +kernel
theorem dX9_seek_65 : decode cX9_seek 65 = .ok (.aload_n 0, 1) := by decide +kernel
theorem dX9_seek_66 : decode cX9_seek 66 = .ok (.getfield 9, 3) := by decide +kernel
theorem dX9_seek_69 : decode cX9_seek 69 = .ok (.invokevirtual 46, 3) := by decide +kernel
theorem dX9_seek_72 : decode cX9_seek 72 = .ok (.if_icmp .lt 9, 3) := by decide +kernel
theorem dX9_seek_75 : decode cX9_seek 75 = .ok (.iinc 2 (-1), 3) := by decide +kernel
theorem dX9_seek_78 : decode cX9_seek 78 = .ok (.goto 63, 3) := by decide +kernel
theorem dX9_seek_81 : decode cX9_seek 81 = .ok (.aload_n 0, 1) := by decide +kernel
theorem dX9_seek_82 : decode cX9_seek 82 = .ok (.getfield 24, 3) := by decide +kernel
theorem dX9_seek_85 : decode cX9_seek 85 = .ok (.getfield 42, 3) := by decide +kernel
theorem dX9_seek_88 : decode cX9_seek 88 = .ok (.iload_n 2, 1) := by decide +kernel
theorem dX9_seek_89 : decode cX9_seek 89 = .ok (.iload 4, 2) := by decide +kernel
theorem dX9_seek_91 : decode cX9_seek 91 = .ok (.iastore, 1) := by decide +kernel
theorem dX9_seek_92 : decode cX9_seek 92 = .ok (.aload_n 0, 1) := by decide +kernel
theorem dX9_seek_93 : decode cX9_seek 93 = .ok (.getfield 15, 3) := by decide +kernel
theorem dX9_seek_96 : decode cX9_seek 96 = .ok (.iload_n 2, 1) := by decide +kernel
theorem dX9_seek_97 : decode cX9_seek 97 = .ok (.iconst 1, 1) := by decide +kernel
theorem dX9_seek_98 : decode cX9_seek 98 = .ok (.iadd, 1) := by decide +kernel
theorem dX9_seek_99 : decode cX9_seek 99 = .ok (.aload_n 0, 1) := by decide +kernel
theorem dX9_seek_100 : decode cX9_seek 100 = .ok (.getfield 9, 3) := by decide +kernel
theorem dX9_seek_103 : decode cX9_seek 103 = .ok (.aload_n 0, 1) := by decide +kernel
theorem dX9_seek_104 : decode cX9_seek 104 = .ok (.getfield 15, 3) := by decide +kernel
theorem dX9_seek_107 : decode cX9_seek 107 = .ok (.iload_n 2, 1) := by decide +kernel
theorem dX9_seek_108 : decode cX9_seek 108 = .ok (.iaload, 1) := by decide +kernel
theorem dX9_seek_109 : decode cX9_seek 109 = .ok (.iload 4, 2) := by decide +kernel
theorem dX9_seek_111 : decode cX9_seek 111 = .ok (.invokevirtual 52, 3) := by decide +kernel
theorem dX9_seek_114 : decode cX9_seek 114 = .ok (.iastore, 1) := by decide +kernel
theorem dX9_seek_115 : decode cX9_seek 115 = .ok (.iinc 2 1, 3) := by decide +kernel
theorem dX9_seek_118 : decode cX9_seek 118 = .ok (.iload_n 2, 1) := by decide +kernel
theorem dX9_seek_119 : decode cX9_seek 119 = .ok (.aload_n 0, 1) := by decide +kernel
theorem dX9_seek_120 : decode cX9_seek 120 = .ok (.getfield 24, 3) := by decide +kernel
theorem dX9_seek_123 : decode cX9_seek 123 = .ok (.getfield 31, 3) := by decide +kernel
theorem dX9_seek_126 : decode cX9_seek 126 = .ok (.if_icmp .lt 5, 3) := by decide +kernel
theorem dX9_seek_129 : decode cX9_seek 129 = .ok (.iconst 1, 1) := by decide +kernel
theorem dX9_seek_130 : decode cX9_seek 130 = .ok (.ireturn, 1) := by decide +kernel
theorem dX9_seek_131 : decode cX9_seek 131 = .ok (.aload_n 0, 1) := by decide +kernel
theorem dX9_seek_132 : decode cX9_seek 132 = .ok (.getfield 24, 3) := by decide +kernel
theorem dX9_seek_135 : decode cX9_seek 135 = .ok (.getfield 42, 3) := by decide +kernel
theorem dX9_seek_138 : decode cX9_seek 138 = .ok (.iload_n 2, 1) := by decide +kernel
theorem dX9_seek_139 : decode cX9_seek 139 = .ok (.iconst (-1), 1) := by decide +kernel
theorem dX9_seek_140 : decode cX9_seek 140 = .ok (.iastore, 1) := by decide +kernel
theorem dX9_seek_141 : decode cX9_seek 141 = .ok (.iinc 3 1, 3) := by decide +kernel
theorem dX9_seek_144 : decode cX9_seek 144 = .ok (.goto (-140), 3) := by decide +kernel
theorem dX9_seek_147 : decode cX9_seek 147 = .ok (.iconst 0, 1) := by decide +kernel
theorem dX9_seek_148 : decode cX9_seek 148 = .ok (.ireturn, 1) := by decide +kernel
