theorem dX1_init_0 : decode cX1_init 0 = .ok (.aload_n 0, 1) := by decide +kernel
theorem dX1_init_1 : decode cX1_init 1 = .ok (.invokespecial 1, 3) := by decide +kernel
theorem dX1_init_4 : decode cX1_init 4 = .ok (.aload_n 0, 1) := by decide +kernel
theorem dX1_init_5 : decode cX1_init 5 = .ok (.iconst 4, 1) := by decide +kernel
theorem dX1_init_6 : decode cX1_init 6 = .ok (.newarray .boolean, 2) := by decide +kernel
theorem dX1_init_8 : decode cX1_init 8 = .ok (.putfield 7, 3) := by decide +kernel
theorem dX1_init_11 : decode cX1_init 11 = .ok (.aload_n 0, 1) := by decide +kernel
theorem dX1_init_12 : decode cX1_init 12 = .ok (.bipush 12, 2) := by decide +kernel
theorem dX1_init_14 : decode cX1_init 14 = .ok (.newarray .int, 2) := by decide +kernel
theorem dX1_init_16 : decode cX1_init 16 = .ok (.putfield 13, 3) := by decide +kernel
theorem dX1_init_19 : decode cX1_init 19 = .ok (.aload_n 0, 1) := by decide +kernel
theorem dX1_init_20 : decode cX1_init 20 = .ok (.bipush 8, 2) := by decide +kernel
theorem dX1_init_22 : decode cX1_init 22 = .ok (.newarray .int, 2) := by decide +kernel
theorem dX1_init_24 : decode cX1_init 24 = .ok (.putfield 17, 3) := by decide +kernel
theorem dX1_init_27 : decode cX1_init 27 = .ok (.aload_n 0, 1) := by decide +kernel
theorem dX1_init_28 : decode cX1_init 28 = .ok (.bipush 8, 2) := by decide +kernel
theorem dX1_init_30 : decode cX1_init 30 = .ok (.newarray .boolean, 2) := by decide +kernel
theorem dX1_init_32 : decode cX1_init 32 = .ok (.putfield 20, 3) := by decide +kernel
theorem dX1_init_35 : decode cX1_init 35 = .ok (.aload_n 0, 1) := by decide +kernel
theorem dX1_init_36 : decode cX1_init 36 = .ok (.bipush 16, 2) := by decide +kernel
theorem dX1_init_38 : decode cX1_init 38 = .ok (.newarray .boolean, 2) := by decide +kernel
theorem dX1_init_40 : decode cX1_init 40 = .ok (.putfield 23, 3) := by decide +kernel
theorem dX1_init_43 : decode cX1_init 43 = .ok (.aload_n 0, 1) := by decide +kernel
theorem dX1_init_44 : decode cX1_init 44 = .ok (.iconst 3, 1) := by decide +kernel
theorem dX1_init_45 : decode cX1_init 45 = .ok (.newarray .int, 2) := by decide +kernel
theorem dX1_init_47 : decode cX1_init 47 = .ok (.dup, 1) := by decide +kernel
theorem dX1_init_48 : decode cX1_init 48 = .ok (.iconst 0, 1) := by decide +kernel
theorem dX1_init_49 : decode cX1_init 49 = .ok (.iconst 4, 1) := by decide +kernel
theorem dX1_init_50 : decode cX1_init 50 = .ok (.iastore, 1) := by decide +kernel
theorem dX1_init_51 : decode cX1_init 51 = .ok (.dup, 1) := by decide +kernel
theorem dX1_init_52 : decode cX1_init 52 = .ok (.iconst 1, 1) := by decide +kernel
theorem dX1_init_53 : decode cX1_init 53 = .ok (.iconst 4, 1) := by decide +kernel
theorem dX1_init_54 : decode cX1_init 54 = .ok (.iastore, 1) := by decide +kernel
theorem dX1_init_55 : decode cX1_init 55 = .ok (.dup, 1) := by decide +kernel
theorem dX1_init_56 : decode cX1_init 56 = .ok (.iconst 2, 1) := by decide +kernel
theorem dX1_init_57 : decode cX1_init 57 = .ok (.iconst 4, 1) := by decide +kernel
theorem dX1_init_58 : decode cX1_init 58 = .ok (.iastore, 1) := by decide +kernel
theorem dX1_init_59 : decode cX1_init 59 = .ok (.putfield 26, 3) := by decide +kernel
theorem dX1_init_62 : decode cX1_init 62 = .ok (.aload_n 0, 1) := by decide +kernel
theorem dX1_init_63 : decode cX1_init 63 = .ok (.iconst 3, 1) := by decide +kernel
theorem dX1_init_64 : decode cX1_init 64 = .ok (.newarray .boolean, 2) := by decide +kernel
theorem dX1_init_66 : decode cX1_init 66 = .ok (.putfield 29, 3) := by decide +kernel
theorem dX1_init_69 : decode cX1_init 69 = .ok (.aload_n 0, 1) := by decide +kernel
theorem dX1_init_70 : decode cX1_init 70 = .ok (.iconst 3, 1) := by decide +kernel
theorem dX1_init_71 : decode cX1_init 71 = .ok (.newarray .int, 2) := by decide +kernel
theorem dX1_init_73 : decode cX1_init 73 = .ok (.putfield 32, 3) := by decide +kernel
theorem dX1_init_76 : decode cX1_init 76 = .ok (.aload_n 0, 1) := by decide +kernel
theorem dX1_init_77 : decode cX1_init 77 = .ok (.bipush 12, 2) := by decide +kernel
theorem dX1_init_79 : decode cX1_init 79 = .ok (.newarray .int, 2) := by decide +kernel
theorem dX1_init_81 : decode cX1_init 81 = .ok (.putfield 35, 3) := by decide +kernel
theorem dX1_init_84 : decode cX1_init 84 = .ok (.aload_n 0, 1) := by decide +kernel
theorem dX1_init_85 : decode cX1_init 85 = .ok (.bipush 12, 2) := by decide +kernel
theorem dX1_init_87 : decode cX1_init 87 = .ok (.newarray .int, 2) := by decide +kernel
theorem dX1_init_89 : decode cX1_init 89 = .ok (.putfield 38, 3) := by decide +kernel
theorem dX1_init_92 : decode cX1_init 92 = .ok (.aload_n 0, 1) := by decide +kernel
theorem dX1_init_93 : decode cX1_init 93 = .ok (.bipush 12, 2) := by decide +kernel
theorem dX1_init_95 : decode cX1_init 95 = .ok (.newarray .int, 2) := by decide +kernel
theorem dX1_init_97 : decode cX1_init 97 = .ok (.putfield 41, 3) := by decide +kernel
theorem dX1_init_100 : decode cX1_init 100 = .ok (.aload_n 0, 1) := by decide +kernel
theorem dX1_init_101 : decode cX1_init 101 = .ok (.bipush 12, 2) := by decide +kernel
theorem dX1_init_103 : decode cX1_init 103 = .ok (.newarray .int, 2) := by decide +kernel
theorem dX1_init_105 : decode cX1_init 105 = .ok (.putfield 44, 3) := by decide +kernel
theorem dX1_init_108 : decode cX1_init 108 = .ok (.aload_n 0, 1) := by decide +kernel
theorem dX1_init_109 : decode cX1_init 109 = .ok (.bipush 12, 2) := by decide +kernel
theorem dX1_init_111 : decode cX1_init 111 = .ok (.newarray .boolean, 2) := by decide +kernel
theorem dX1_init_113 : decode cX1_init 113 = .ok (.putfield 47, 3) := by decide +kernel
theorem dX1_init_116 : decode cX1_init 116 = .ok (.aload_n 0, 1) := by decide +kernel
theorem dX1_init_117 : decode cX1_init 117 = .ok (.bipush 12, 2) := by decide +kernel
theorem dX1_init_119 : decode cX1_init 119 = .ok (.newarray .int, 2) := by decide +kernel
theorem dX1_init_121 : decode cX1_init 121 = .ok (.putfield 50, 3) := by decide +kernel
theorem dX1_init_124 : decode cX1_init 124 = .ok (.aload_n 0, 1) := by decide +kernel
theorem dX1_init_125 : decode cX1_init 125 = .ok (.iconst 3, 1) := by decide +kernel
theorem dX1_init_126 : decode cX1_init 126 = .ok (.newarray .int, 2) := by decide +kernel
theorem dX1_init_128 : decode cX1_init 128 = .ok (.putfield 53, 3) := by decide +kernel
theorem dX1_init_131 : decode cX1_init 131 = .ok (.aload_n 0, 1) := by decide +kernel
theorem dX1_init_132 : decode cX1_init 132 = .ok (.iconst 3, 1) := by decide +kernel
theorem dX1_init_133 : decode cX1_init 133 = .ok (.newarray .int, 2) := by decide +kernel
theorem dX1_init_135 : decode cX1_init 135 = .ok (.putfield 56, 3) := by decide +kernel
theorem dX1_init_138 : decode cX1_init 138 = .ok (.return_, 1) := by decide +kernel
theorem dX1_thrown_0 : decode cX1_thrown 0 = .ok (.aload_n 0, 1) := by decide +kernel
theorem dX1_thrown_1 : decode cX1_thrown 1 = .ok (.getfield 59, 3) := by decide +kernel
theorem dX1_thrown_4 : decode cX1_thrown 4 = .ok (.ireturn, 1) := by decide +kernel
theorem dX1_goesWell_0 : decode cX1_goesWell 0 = .ok (.aload_n 0, 1) := by decide +kernel
theorem dX1_goesWell_1 : decode cX1_goesWell 1 = .ok (.iload_n 1, 1) := by decide +kernel
theorem dX1_goesWell_2 : decode cX1_goesWell 2 = .ok (.putfield 59, 3) := by decide +kernel
theorem dX1_goesWell_5 : decode cX1_goesWell 5 = .ok (.iload_n 1, 1) := by decide +kernel
theorem dX1_goesWell_6 : decode cX1_goesWell 6 = .ok (.ifCond .ne 7, 3) := by decide +kernel
theorem dX1_goesWell_9 : decode cX1_goesWell 9 = .ok (.iconst 1, 1) := by decide +kernel
theorem dX1_goesWell_10 : decode cX1_goesWell 10 = .ok (.goto 4, 3) := by decide +kernel
theorem dX1_goesWell_13 : decode cX1_goesWell 13 = .ok (.iconst 0, 1) := by decide +kernel
theorem dX1_goesWell_14 : decode cX1_goesWell 14 = .ok (.ireturn, 1) := by decide +kernel
theorem dX1_in_0 : decode cX1_in 0 = .ok (.iload_n 0, 1) := by decide +kernel
theorem dX1_in_1 : decode cX1_in 1 = .ok (.iload_n 1, 1) := by decide +kernel
theorem dX1_in_2 : decode cX1_in 2 = .ok (.if_icmp .lt 12, 3) := by decide +kernel
theorem dX1_in_5 : decode cX1_in 5 = .ok (.iload_n 0, 1) := by decide +kernel
theorem dX1_in_6 : decode cX1_in 6 = .ok (.iload_n 2, 1) := by decide +kernel
theorem dX1_in_7 : decode cX1_in 7 = .ok (.if_icmp .gt 7, 3) := by decide +kernel
theorem dX1_in_10 : decode cX1_in 10 = .ok (.iconst 1, 1) := by decide +kernel
theorem dX1_in_11 : decode cX1_in 11 = .ok (.goto 4, 3) := by decide +kernel
theorem dX1_in_14 : decode cX1_in 14 = .ok (.iconst 0, 1) := by decide +kernel
theorem dX1_in_15 : decode cX1_in 15 = .ok (.ireturn, 1) := by decide +kernel
set_option maxRecDepth 20000 in
theorem ggX1_isRouter_X1_in : GoodIn wsX1_isRouter wsX1_in := goodIn_r _ [4] (by decide +kernel) (by decide +kernel)
set_option maxRecDepth 20000 in
theorem gX1_isRouter_X1_in : GoodIn wsX1_isRouter (va_wsS RX1 63 yX1_in wsX1_in) := goodIn_app (goodIn_of _ (by decide +kernel)) ggX1_isRouter_X1_in
theorem dX1_isRouter_0 : decode cX1_isRouter 0 = .ok (.iload_n 0, 1) := by decide +kernel
theorem dX1_isRouter_1 : decode cX1_isRouter 1 = .ok (.iconst 0, 1) := by decide +kernel
theorem dX1_isRouter_2 : decode cX1_isRouter 2 = .ok (.iconst 3, 1) := by decide +kernel
theorem dX1_isRouter_3 : decode cX1_isRouter 3 = .ok (.invokestatic 63, 3) := by decide +kernel
theorem dX1_isRouter_6 : decode cX1_isRouter 6 = .ok (.ireturn, 1) := by decide +kernel
set_option maxRecDepth 20000 in
theorem ggX1_isGroup_X1_in : GoodIn wsX1_isGroup wsX1_in := goodIn_r _ [4] (by decide +kernel) (by decide +kernel)
set_option maxRecDepth 20000 in
theorem gX1_isGroup_X1_in : GoodIn wsX1_isGroup (va_wsS RX1 63 yX1_in wsX1_in) := goodIn_app (goodIn_of _ (by decide +kernel)) ggX1_isGroup_X1_in
theorem dX1_isGroup_0 : decode cX1_isGroup 0 = .ok (.iload_n 0, 1) := by decide +kernel
theorem dX1_isGroup_1 : decode cX1_isGroup 1 = .ok (.iconst 0, 1) := by decide +kernel
theorem dX1_isGroup_2 : decode cX1_isGroup 2 = .ok (.iconst 2, 1) := by decide +kernel
theorem dX1_isGroup_3 : decode cX1_isGroup 3 = .ok (.invokestatic 63, 3) := by decide +kernel
theorem dX1_isGroup_6 : decode cX1_isGroup 6 = .ok (.ireturn, 1) := by decide +kernel
set_option maxRecDepth 20000 in
theorem ggX1_are_X1_isRouter : GoodIn wsX1_are wsX1_isRouter := goodIn_r _ [4, 5, 6, 3, 7] (by decide +kernel) (by decide +kernel)
set_option maxRecDepth 20000 in
theorem gX1_are_X1_isRouter : GoodIn wsX1_are (va_wsS RX1 67 yX1_isRouter wsX1_isRouter) := goodIn_app (goodIn_of _ (by decide +kernel)) ggX1_are_X1_isRouter
set_option maxRecDepth 20000 in
theorem ggX1_are_X1_isGroup : GoodIn wsX1_are wsX1_isGroup := goodIn_r _ [10, 5, 6, 3, 7] (by decide +kernel) (by decide +kernel)
set_option maxRecDepth 20000 in
theorem gX1_are_X1_isGroup : GoodIn wsX1_are (va_wsS RX1 71 yX1_isGroup wsX1_isGroup) := goodIn_app (goodIn_of _ (by decide +kernel)) ggX1_are_X1_isGroup
theorem dX1_are_0 : decode cX1_are 0 = .ok (.iload_n 0, 1) := by decide +kernel
theorem dX1_are_1 : decode cX1_are 1 = .ok (.invokestatic 67, 3) := by decide +kernel
theorem dX1_are_4 : decode cX1_are 4 = .ok (.ifCond .eq 14, 3) := by decide +kernel
theorem dX1_are_7 : decode cX1_are 7 = .ok (.iload_n 1, 1) := by decide +kernel
theorem dX1_are_8 : decode cX1_are 8 = .ok (.invokestatic 71, 3) := by decide +kernel
theorem dX1_are_11 : decode cX1_are 11 = .ok (.ifCond .eq 7, 3) := by decide +kernel
theorem dX1_are_14 : decode cX1_are 14 = .ok (.iconst 1, 1) := by decide +kernel
theorem dX1_are_15 : decode cX1_are 15 = .ok (.goto 4, 3) := by decide +kernel
theorem dX1_are_18 : decode cX1_are 18 = .ok (.iconst 0, 1) := by decide +kernel
theorem dX1_are_19 : decode cX1_are 19 = .ok (.ireturn, 1) := by decide +kernel
theorem dX1_priorityAt_0 : decode cX1_priorityAt 0 = .ok (.aload_n 0, 1) := by decide +kernel
theorem dX1_priorityAt_1 : decode cX1_priorityAt 1 = .ok (.getfield 13, 3) := by decide +kernel
theorem dX1_priorityAt_4 : decode cX1_priorityAt 4 = .ok (.iload_n 1, 1) := by decide +kernel
theorem dX1_priorityAt_5 : decode cX1_priorityAt 5 = .ok (.iaload, 1) := by decide +kernel
theorem dX1_priorityAt_6 : decode cX1_priorityAt 6 = .ok (.istore_n 2, 1) := by decide +kernel
theorem dX1_priorityAt_7 : decode cX1_priorityAt 7 = .ok (.iconst 0, 1) := by decide +kernel
theorem dX1_priorityAt_8 : decode cX1_priorityAt 8 = .ok (.istore_n 3, 1) := by decide +kernel
theorem dX1_priorityAt_9 : decode cX1_priorityAt 9 = .ok (.iload_n 3, 1) := by decide +kernel
theorem dX1_priorityAt_10 : decode cX1_priorityAt 10 = .ok (.iconst 2, 1) := by decide +kernel
theorem dX1_priorityAt_11 : decode cX1_priorityAt 11 = .ok (.if_icmp .ge 42, 3) := by decide +kernel
theorem dX1_priorityAt_14 : decode cX1_priorityAt 14 = .ok (.iconst 2, 1) := by decide +kernel
theorem dX1_priorityAt_15 : decode cX1_priorityAt 15 = .ok (.iload_n 1, 1) := by decide +kernel
theorem dX1_priorityAt_16 : decode cX1_priorityAt 16 = .ok (.iconst 3, 1) := by decide +kernel
theorem dX1_priorityAt_17 : decode cX1_priorityAt 17 = .ok (.idiv, 1) := by decide +kernel
theorem dX1_priorityAt_18 : decode cX1_priorityAt 18 = .ok (.imul, 1) := by decide +kernel
theorem dX1_priorityAt_19 : decode cX1_priorityAt 19 = .ok (.iload_n 3, 1) := by decide +kernel
theorem dX1_priorityAt_20 : decode cX1_priorityAt 20 = .ok (.iadd, 1) := by decide +kernel
theorem dX1_priorityAt_21 : decode cX1_priorityAt 21 = .ok (.istore 4, 2) := by decide +kernel
theorem dX1_priorityAt_23 : decode cX1_priorityAt 23 = .ok (.iload_n 2, 1) := by decide +kernel
theorem dX1_priorityAt_24 : decode cX1_priorityAt 24 = .ok (.aload_n 0, 1) := by decide +kernel
theorem dX1_priorityAt_25 : decode cX1_priorityAt 25 = .ok (.getfield 20, 3) := by decide +kernel
theorem dX1_priorityAt_28 : decode cX1_priorityAt 28 = .ok (.iload 4, 2) := by decide +kernel
theorem dX1_priorityAt_30 : decode cX1_priorityAt 30 = .ok (.baload, 1) := by decide +kernel
theorem dX1_priorityAt_31 : decode cX1_priorityAt 31 = .ok (.ifCond .eq 13, 3) := by decide +kernel
theorem dX1_priorityAt_34 : decode cX1_priorityAt 34 = .ok (.aload_n 0, 1) := by decide +kernel
theorem dX1_priorityAt_35 : decode cX1_priorityAt 35 = .ok (.getfield 17, 3) := by decide +kernel
theorem dX1_priorityAt_38 : decode cX1_priorityAt 38 = .ok (.iload 4, 2) := by decide +kernel
theorem dX1_priorityAt_40 : decode cX1_priorityAt 40 = .ok (.iaload, 1) := by decide +kernel
theorem dX1_priorityAt_41 : decode cX1_priorityAt 41 = .ok (.goto 4, 3) := by decide +kernel
theorem dX1_priorityAt_44 : decode cX1_priorityAt 44 = .ok (.iconst 0, 1) := by decide +kernel
theorem dX1_priorityAt_45 : decode cX1_priorityAt 45 = .ok (.isub, 1) := by decide +kernel
theorem dX1_priorityAt_46 : decode cX1_priorityAt 46 = .ok (.istore_n 2, 1) := by decide +kernel
theorem dX1_priorityAt_47 : decode cX1_priorityAt 47 = .ok (.iinc 3 1, 3) := by decide +kernel
theorem dX1_priorityAt_50 : decode cX1_priorityAt 50 = .ok (.goto (-41), 3) := by decide +kernel
theorem dX1_priorityAt_53 : decode cX1_priorityAt 53 = .ok (.iload_n 2, 1) := by decide +kernel
theorem dX1_priorityAt_54 : decode cX1_priorityAt 54 = .ok (.iconst 1, 1) := by decide +kernel
theorem dX1_priorityAt_55 : decode cX1_priorityAt 55 = .ok (.if_icmp .ge 7, 3) := by decide +kernel
theorem dX1_priorityAt_58 : decode cX1_priorityAt 58 = .ok (.iconst 1, 1) := by decide +kernel
theorem dX1_priorityAt_59 : decode cX1_priorityAt 59 = .ok (.goto 4, 3) := by decide +kernel
theorem dX1_priorityAt_62 : decode cX1_priorityAt 62 = .ok (.iload_n 2, 1) := by decide +kernel
theorem dX1_priorityAt_63 : decode cX1_priorityAt 63 = .ok (.ireturn, 1) := by decide +kernel
set_option maxRecDepth 20000 in
theorem ggX1_skew_X1_priorityAt : GoodIn wsX1_skew wsX1_priorityAt := goodIn_r _ [6, 7, 8, 9, 10, 11, 12, 13, 14, 15, 16, 17, 18, 19, 20, 21, 22, 23, 24, 25, 26, 27, 28] (by decide +kernel) (by decide +kernel)
set_option maxRecDepth 20000 in
theorem gX1_skew_X1_priorityAt : GoodIn wsX1_skew (wsV RX1 74 RX1 yX1_priorityAt wsX1_priorityAt) := goodIn_app (goodIn_of _ (by decide +kernel)) ggX1_skew_X1_priorityAt
theorem dX1_skew_0 : decode cX1_skew 0 = .ok (.aload_n 0, 1) := by decide +kernel
theorem dX1_skew_1 : decode cX1_skew 1 = .ok (.getfield 26, 3) := by decide +kernel
theorem dX1_skew_4 : decode cX1_skew 4 = .ok (.iload_n 1, 1) := by decide +kernel
theorem dX1_skew_5 : decode cX1_skew 5 = .ok (.iconst 3, 1) := by decide +kernel
theorem dX1_skew_6 : decode cX1_skew 6 = .ok (.irem, 1) := by decide +kernel
theorem dX1_skew_7 : decode cX1_skew 7 = .ok (.iaload, 1) := by decide +kernel
theorem dX1_skew_8 : decode cX1_skew 8 = .ok (.sipush 256, 3) := by decide +kernel
theorem dX1_skew_11 : decode cX1_skew 11 = .ok (.aload_n 0, 1) := by decide +kernel
theorem dX1_skew_12 : decode cX1_skew 12 = .ok (.iload_n 1, 1) := by decide +kernel
theorem dX1_skew_13 : decode cX1_skew 13 = .ok (.invokevirtual 74, 3) := by decide +kernel
theorem dX1_skew_16 : decode cX1_skew 16 = .ok (.isub, 1) := by decide +kernel
theorem dX1_skew_17 : decode cX1_skew 17 = .ok (.imul, 1) := by decide +kernel
theorem dX1_skew_18 : decode cX1_skew 18 = .ok (.sipush 256, 3) := by decide +kernel
theorem dX1_skew_21 : decode cX1_skew 21 = .ok (.idiv, 1) := by decide +kernel
theorem dX1_skew_22 : decode cX1_skew 22 = .ok (.ireturn, 1) := by decide +kernel
set_option maxRecDepth 20000 in
theorem ggX1_waitAt_X1_skew : GoodIn wsX1_waitAt wsX1_skew := goodIn_r _ [6, 1, 7, 8, 9, 5, 10, 11, 12, 13, 14, 15, 16, 17, 18, 19, 20, 21, 22, 23, 24, 25, 26, 27, 28, 29, 30, 31, 32] (by decide +kernel) (by decide +kernel)
set_option maxRecDepth 20000 in
theorem gX1_waitAt_X1_skew : GoodIn wsX1_waitAt (wsV RX1 78 RX1 yX1_skew wsX1_skew) := goodIn_app (goodIn_of _ (by decide +kernel)) ggX1_waitAt_X1_skew
theorem dX1_waitAt_0 : decode cX1_waitAt 0 = .ok (.iconst 3, 1) := by decide +kernel
theorem dX1_waitAt_1 : decode cX1_waitAt 1 = .ok (.aload_n 0, 1) := by decide +kernel
theorem dX1_waitAt_2 : decode cX1_waitAt 2 = .ok (.getfield 26, 3) := by decide +kernel
theorem dX1_waitAt_5 : decode cX1_waitAt 5 = .ok (.iload_n 1, 1) := by decide +kernel
theorem dX1_waitAt_6 : decode cX1_waitAt 6 = .ok (.iconst 3, 1) := by decide +kernel
theorem dX1_waitAt_7 : decode cX1_waitAt 7 = .ok (.irem, 1) := by decide +kernel
theorem dX1_waitAt_8 : decode cX1_waitAt 8 = .ok (.iaload, 1) := by decide +kernel
theorem dX1_waitAt_9 : decode cX1_waitAt 9 = .ok (.imul, 1) := by decide +kernel
theorem dX1_waitAt_10 : decode cX1_waitAt 10 = .ok (.aload_n 0, 1) := by decide +kernel
theorem dX1_waitAt_11 : decode cX1_waitAt 11 = .ok (.iload_n 1, 1) := by decide +kernel
theorem dX1_waitAt_12 : decode cX1_waitAt 12 = .ok (.invokevirtual 78, 3) := by decide +kernel
theorem dX1_waitAt_15 : decode cX1_waitAt 15 = .ok (.iadd, 1) := by decide +kernel
theorem dX1_waitAt_16 : decode cX1_waitAt 16 = .ok (.ireturn, 1) := by decide +kernel
theorem dX1_copy_0 : decode cX1_copy 0 = .ok (.aload_n 0, 1) := by decide +kernel
theorem dX1_copy_1 : decode cX1_copy 1 = .ok (.getfield 44, 3) := by decide +kernel
theorem dX1_copy_4 : decode cX1_copy 4 = .ok (.iload_n 1, 1) := by decide +kernel
theorem dX1_copy_5 : decode cX1_copy 5 = .ok (.iaload, 1) := by decide +kernel
theorem dX1_copy_6 : decode cX1_copy 6 = .ok (.aload_n 0, 1) := by decide +kernel
theorem dX1_copy_7 : decode cX1_copy 7 = .ok (.getfield 44, 3) := by decide +kernel
theorem dX1_copy_10 : decode cX1_copy 10 = .ok (.iload_n 2, 1) := by decide +kernel
theorem dX1_copy_11 : decode cX1_copy 11 = .ok (.iaload, 1) := by decide +kernel
theorem dX1_copy_12 : decode cX1_copy 12 = .ok (.isub, 1) := by decide +kernel
theorem dX1_copy_13 : decode cX1_copy 13 = .ok (.istore_n 3, 1) := by decide +kernel
theorem dX1_copy_14 : decode cX1_copy 14 = .ok (.iload_n 3, 1) := by decide +kernel
theorem dX1_copy_15 : decode cX1_copy 15 = .ok (.ifCond .gt 4, 3) := by decide +kernel
theorem dX1_copy_18 : decode cX1_copy 18 = .ok (.return_, 1) := by decide +kernel
theorem dX1_copy_19 : decode cX1_copy 19 = .ok (.iload_n 3, 1) := by decide +kernel
theorem dX1_copy_20 : decode cX1_copy 20 = .ok (.bipush 10, 2) := by decide +kernel
theorem dX1_copy_22 : decode cX1_copy 22 = .ok (.if_icmp .le 12, 3) := by decide +kernel
theorem dX1_copy_25 : decode cX1_copy 25 = .ok (.aload_n 0, 1) := by decide +kernel
theorem dX1_copy_26 : decode cX1_copy 26 = .ok (.getfield 47, 3) := by decide +kernel
theorem dX1_copy_29 : decode cX1_copy 29 = .ok (.iload_n 2, 1) := by decide +kernel
theorem dX1_copy_30 : decode cX1_copy 30 = .ok (.baload, 1) := by decide +kernel
theorem dX1_copy_31 : decode cX1_copy 31 = .ok (.ifCond .eq 48, 3) := by decide +kernel
theorem dX1_copy_34 : decode cX1_copy 34 = .ok (.aload_n 0, 1) := by decide +kernel
theorem dX1_copy_35 : decode cX1_copy 35 = .ok (.getfield 44, 3) := by decide +kernel
theorem dX1_copy_38 : decode cX1_copy 38 = .ok (.iload_n 2, 1) := by decide +kernel
theorem dX1_copy_39 : decode cX1_copy 39 = .ok (.aload_n 0, 1) := by decide +kernel
theorem dX1_copy_40 : decode cX1_copy 40 = .ok (.getfield 44, 3) := by decide +kernel
theorem dX1_copy_43 : decode cX1_copy 43 = .ok (.iload_n 1, 1) := by decide +kernel
theorem dX1_copy_44 : decode cX1_copy 44 = .ok (.iaload, 1) := by decide +kernel
theorem dX1_copy_45 : decode cX1_copy 45 = .ok (.iastore, 1) := by decide +kernel
theorem dX1_copy_46 : decode cX1_copy 46 = .ok (.aload_n 0, 1) := by decide +kernel
theorem dX1_copy_47 : decode cX1_copy 47 = .ok (.dup, 1) := by decide +kernel
theorem dX1_copy_48 : decode cX1_copy 48 = .ok (.getfield 81, 3) := by decide +kernel
theorem dX1_copy_51 : decode cX1_copy 51 = .ok (.aload_n 0, 1) := by decide +kernel
theorem dX1_copy_52 : decode cX1_copy 52 = .ok (.getfield 47, 3) := by decide +kernel
theorem dX1_copy_55 : decode cX1_copy 55 = .ok (.iload_n 2, 1) := by decide +kernel
theorem dX1_copy_56 : decode cX1_copy 56 = .ok (.baload, 1) := by decide +kernel
theorem dX1_copy_57 : decode cX1_copy 57 = .ok (.ifCond .eq 7, 3) := by decide +kernel
theorem dX1_copy_60 : decode cX1_copy 60 = .ok (.iconst 1, 1) := by decide +kernel
theorem dX1_copy_61 : decode cX1_copy 61 = .ok (.goto 4, 3) := by decide +kernel
theorem dX1_copy_64 : decode cX1_copy 64 = .ok (.iconst 0, 1) := by decide +kernel
theorem dX1_copy_65 : decode cX1_copy 65 = .ok (.iadd, 1) := by decide +kernel
theorem dX1_copy_66 : decode cX1_copy 66 = .ok (.putfield 81, 3) := by decide +kernel
theorem dX1_copy_69 : decode cX1_copy 69 = .ok (.aload_n 0, 1) := by decide +kernel
theorem dX1_copy_70 : decode cX1_copy 70 = .ok (.getfield 47, 3) := by decide +kernel
theorem dX1_copy_73 : decode cX1_copy 73 = .ok (.iload_n 2, 1) := by decide +kernel
theorem dX1_copy_74 : decode cX1_copy 74 = .ok (.iconst 0, 1) := by decide +kernel
theorem dX1_copy_75 : decode cX1_copy 75 = .ok (.bastore, 1) := by decide +kernel
theorem dX1_copy_76 : decode cX1_copy 76 = .ok (.goto 10, 3) := by decide +kernel
theorem dX1_copy_79 : decode cX1_copy 79 = .ok (.aload_n 0, 1) := by decide +kernel
theorem dX1_copy_80 : decode cX1_copy 80 = .ok (.getfield 47, 3) := by decide +kernel
theorem dX1_copy_83 : decode cX1_copy 83 = .ok (.iload_n 2, 1) := by decide +kernel
theorem dX1_copy_84 : decode cX1_copy 84 = .ok (.iconst 1, 1) := by decide +kernel
theorem dX1_copy_85 : decode cX1_copy 85 = .ok (.bastore, 1) := by decide +kernel
theorem dX1_copy_86 : decode cX1_copy 86 = .ok (.return_, 1) := by decide +kernel
set_option maxRecDepth 20000 in
theorem ggX1_rest_X1_waitAt : GoodIn wsX1_rest wsX1_waitAt := goodIn_r _ [8, 9, 10, 11, 12, 7, 13, 14, 15, 16, 17, 18, 19, 20, 21, 22, 23, 24, 25, 26, 27, 28, 29, 30, 31, 32, 33, 34, 35, 36, 37, 38, 39] (by decide +kernel) (by decide +kernel)
set_option maxRecDepth 20000 in
theorem gX1_rest_X1_waitAt : GoodIn wsX1_rest (wsV RX1 84 RX1 yX1_waitAt wsX1_waitAt) := goodIn_app (goodIn_of _ (by decide +kernel)) ggX1_rest_X1_waitAt
theorem dX1_rest_0 : decode cX1_rest 0 = .ok (.aload_n 0, 1) := by decide +kernel
theorem dX1_rest_1 : decode cX1_rest 1 = .ok (.getfield 35, 3) := by decide +kernel
theorem dX1_rest_4 : decode cX1_rest 4 = .ok (.iload_n 1, 1) := by decide +kernel
theorem dX1_rest_5 : decode cX1_rest 5 = .ok (.iconst 1, 1) := by decide +kernel
theorem dX1_rest_6 : decode cX1_rest 6 = .ok (.iastore, 1) := by decide +kernel
theorem dX1_rest_7 : decode cX1_rest 7 = .ok (.aload_n 0, 1) := by decide +kernel
theorem dX1_rest_8 : decode cX1_rest 8 = .ok (.getfield 41, 3) := by decide +kernel
theorem dX1_rest_11 : decode cX1_rest 11 = .ok (.iload_n 1, 1) := by decide +kernel
theorem dX1_rest_12 : decode cX1_rest 12 = .ok (.iload_n 2, 1) := by decide +kernel
theorem dX1_rest_13 : decode cX1_rest 13 = .ok (.iastore, 1) := by decide +kernel
theorem dX1_rest_14 : decode cX1_rest 14 = .ok (.aload_n 0, 1) := by decide +kernel
theorem dX1_rest_15 : decode cX1_rest 15 = .ok (.getfield 38, 3) := by decide +kernel
theorem dX1_rest_18 : decode cX1_rest 18 = .ok (.iload_n 1, 1) := by decide +kernel
theorem dX1_rest_19 : decode cX1_rest 19 = .ok (.aload_n 0, 1) := by decide +kernel
theorem dX1_rest_20 : decode cX1_rest 20 = .ok (.iload_n 1, 1) := by decide +kernel
theorem dX1_rest_21 : decode cX1_rest 21 = .ok (.invokevirtual 84, 3) := by decide +kernel
theorem dX1_rest_24 : decode cX1_rest 24 = .ok (.iastore, 1) := by decide +kernel
theorem dX1_rest_25 : decode cX1_rest 25 = .ok (.return_, 1) := by decide +kernel
set_option maxRecDepth 20000 in
theorem ggX1_receive_X1_priorityAt : GoodIn wsX1_receive wsX1_priorityAt := goodIn_r _ [10, 11, 12, 13, 34, 35, 36, 37, 38, 39, 40, 41, 42, 43, 44, 45, 46, 47, 48, 49, 50, 51, 52] (by decide +kernel) (by decide +kernel)
set_option maxRecDepth 20000 in
theorem gX1_receive_X1_priorityAt : GoodIn wsX1_receive (wsV RX1 74 RX1 yX1_priorityAt wsX1_priorityAt) := goodIn_app (goodIn_of _ (by decide +kernel)) ggX1_receive_X1_priorityAt
set_option maxRecDepth 20000 in
theorem ggX1_receive_X1_rest : GoodIn wsX1_receive wsX1_rest := goodIn_r _ [17, 1, 4, 2, 18, 19, 20, 9, 21, 22, 23, 24, 25, 26, 6, 7, 8, 10, 11, 12, 13, 34, 35, 36, 37, 38, 39, 40, 41, 42, 43, 44, 45, 46, 47, 48, 49, 50, 51, 52] (by decide +kernel) (by decide +kernel)
set_option maxRecDepth 20000 in
theorem gX1_receive_X1_rest : GoodIn wsX1_receive (wsV RX1 87 RX1 yX1_rest wsX1_rest) := goodIn_app (goodIn_of _ (by decide +kernel)) ggX1_receive_X1_rest
set_option maxRecDepth 20000 in
theorem ggX1_receive_X1_copy : GoodIn wsX1_receive wsX1_copy := goodIn_r _ [30, 31, 32, 33, 34, 35, 36, 37, 38, 39, 40, 41, 42, 43, 44, 45, 46, 47, 48, 49, 50, 51, 52] (by decide +kernel) (by decide +kernel)
set_option maxRecDepth 20000 in
theorem gX1_receive_X1_copy : GoodIn wsX1_receive (wsV RX1 91 RX1 yX1_copy wsX1_copy) := goodIn_app (goodIn_of _ (by decide +kernel)) ggX1_receive_X1_copy
set_option maxRecDepth 20000 in
theorem ggX1_receive_X1_skew : GoodIn wsX1_receive wsX1_skew := goodIn_r _ [26, 22, 6, 7, 8, 9, 10, 11, 12, 13, 34, 35, 36, 37, 38, 39, 40, 41, 42, 43, 44, 45, 46, 47, 48, 49, 50, 51, 52] (by decide +kernel) (by decide +kernel)
set_option maxRecDepth 20000 in
theorem gX1_receive_X1_skew : GoodIn wsX1_receive (wsV RX1 78 RX1 yX1_skew wsX1_skew) := goodIn_app (goodIn_of _ (by decide +kernel)) ggX1_receive_X1_skew
theorem dX1_receive_0 : decode cX1_receive 0 = .ok (.aload_n 0, 1) := by decide +kernel
theorem dX1_receive_1 : decode cX1_receive 1 = .ok (.iload_n 2, 1) := by decide +kernel
theorem dX1_receive_2 : decode cX1_receive 2 = .ok (.invokevirtual 74, 3) := by decide +kernel
theorem dX1_receive_5 : decode cX1_receive 5 = .ok (.istore 4, 2) := by decide +kernel
theorem dX1_receive_7 : decode cX1_receive 7 = .ok (.aload_n 0, 1) := by decide +kernel
theorem dX1_receive_8 : decode cX1_receive 8 = .ok (.getfield 35, 3) := by decide +kernel
theorem dX1_receive_11 : decode cX1_receive 11 = .ok (.iload_n 2, 1) := by decide +kernel
theorem dX1_receive_12 : decode cX1_receive 12 = .ok (.iaload, 1) := by decide +kernel
theorem dX1_receive_13 : decode cX1_receive 13 = .ok (.iconst 2, 1) := by decide +kernel
theorem dX1_receive_14 : decode cX1_receive 14 = .ok (.if_icmp .ne 35, 3) := by decide +kernel
theorem dX1_receive_17 : decode cX1_receive 17 = .ok (.iload_n 3, 1) := by decide +kernel
theorem dX1_receive_18 : decode cX1_receive 18 = .ok (.iload 4, 2) := by decide +kernel
theorem dX1_receive_20 : decode cX1_receive 20 = .ok (.if_icmp .gt 14, 3) := by decide +kernel
theorem dX1_receive_23 : decode cX1_receive 23 = .ok (.iload_n 3, 1) := by decide +kernel
theorem dX1_receive_24 : decode cX1_receive 24 = .ok (.iload 4, 2) := by decide +kernel
theorem dX1_receive_26 : decode cX1_receive 26 = .ok (.if_icmp .ne 117, 3) := by decide +kernel
theorem dX1_receive_29 : decode cX1_receive 29 = .ok (.iload_n 1, 1) := by decide +kernel
theorem dX1_receive_30 : decode cX1_receive 30 = .ok (.iload_n 2, 1) := by decide +kernel
theorem dX1_receive_31 : decode cX1_receive 31 = .ok (.if_icmp .le 112, 3) := by decide +kernel
theorem dX1_receive_34 : decode cX1_receive 34 = .ok (.aload_n 0, 1) := by decide +kernel
theorem dX1_receive_35 : decode cX1_receive 35 = .ok (.iload_n 2, 1) := by decide +kernel
theorem dX1_receive_36 : decode cX1_receive 36 = .ok (.iconst 0, 1) := by decide +kernel
theorem dX1_receive_37 : decode cX1_receive 37 = .ok (.invokevirtual 87, 3) := by decide +kernel
theorem dX1_receive_40 : decode cX1_receive 40 = .ok (.aload_n 0, 1) := by decide +kernel
theorem dX1_receive_41 : decode cX1_receive 41 = .ok (.iload_n 1, 1) := by decide +kernel
theorem dX1_receive_42 : decode cX1_receive 42 = .ok (.iload_n 2, 1) := by decide +kernel
theorem dX1_receive_43 : decode cX1_receive 43 = .ok (.invokevirtual 91, 3) := by decide +kernel
theorem dX1_receive_46 : decode cX1_receive 46 = .ok (.goto 97, 3) := by decide +kernel
theorem dX1_receive_49 : decode cX1_receive 49 = .ok (.iload_n 3, 1) := by decide +kernel
theorem dX1_receive_50 : decode cX1_receive 50 = .ok (.ifCond .ne 25, 3) := by decide +kernel
theorem dX1_receive_53 : decode cX1_receive 53 = .ok (.aload_n 0, 1) := by decide +kernel
theorem dX1_receive_54 : decode cX1_receive 54 = .ok (.getfield 38, 3) := by decide +kernel
theorem dX1_receive_57 : decode cX1_receive 57 = .ok (.iload_n 2, 1) := by decide +kernel
theorem dX1_receive_58 : decode cX1_receive 58 = .ok (.aload_n 0, 1) := by decide +kernel
theorem dX1_receive_59 : decode cX1_receive 59 = .ok (.iload_n 2, 1) := by decide +kernel
theorem dX1_receive_60 : decode cX1_receive 60 = .ok (.invokevirtual 78, 3) := by decide +kernel
theorem dX1_receive_63 : decode cX1_receive 63 = .ok (.iconst 1, 1) := by decide +kernel
theorem dX1_receive_64 : decode cX1_receive 64 = .ok (.iadd, 1) := by decide +kernel
theorem dX1_receive_65 : decode cX1_receive 65 = .ok (.iastore, 1) := by decide +kernel
theorem dX1_receive_66 : decode cX1_receive 66 = .ok (.aload_n 0, 1) := by decide +kernel
theorem dX1_receive_67 : decode cX1_receive 67 = .ok (.iload_n 1, 1) := by decide +kernel
theorem dX1_receive_68 : decode cX1_receive 68 = .ok (.iload_n 2, 1) := by decide +kernel
theorem dX1_receive_69 : decode cX1_receive 69 = .ok (.invokevirtual 91, 3) := by decide +kernel
theorem dX1_receive_72 : decode cX1_receive 72 = .ok (.goto 71, 3) := by decide +kernel
theorem dX1_receive_75 : decode cX1_receive 75 = .ok (.aload_n 0, 1) := by decide +kernel
theorem dX1_receive_76 : decode cX1_receive 76 = .ok (.getfield 29, 3) := by decide +kernel
theorem dX1_receive_79 : decode cX1_receive 79 = .ok (.iload_n 2, 1) := by decide +kernel
theorem dX1_receive_80 : decode cX1_receive 80 = .ok (.iconst 3, 1) := by decide +kernel
theorem dX1_receive_81 : decode cX1_receive 81 = .ok (.irem, 1) := by decide +kernel
theorem dX1_receive_82 : decode cX1_receive 82 = .ok (.baload, 1) := by decide +kernel
theorem dX1_receive_83 : decode cX1_receive 83 = .ok (.ifCond .ne 9, 3) := by decide +kernel
theorem dX1_receive_86 : decode cX1_receive 86 = .ok (.iload 4, 2) := by decide +kernel
theorem dX1_receive_88 : decode cX1_receive 88 = .ok (.iload_n 3, 1) := by decide +kernel
theorem dX1_receive_89 : decode cX1_receive 89 = .ok (.if_icmp .gt 18, 3) := by decide +kernel
theorem dX1_receive_92 : decode cX1_receive 92 = .ok (.aload_n 0, 1) := by decide +kernel
theorem dX1_receive_93 : decode cX1_receive 93 = .ok (.iload_n 2, 1) := by decide +kernel
theorem dX1_receive_94 : decode cX1_receive 94 = .ok (.iconst 0, 1) := by decide +kernel
theorem dX1_receive_95 : decode cX1_receive 95 = .ok (.invokevirtual 87, 3) := by decide +kernel
theorem dX1_receive_98 : decode cX1_receive 98 = .ok (.aload_n 0, 1) := by decide +kernel
theorem dX1_receive_99 : decode cX1_receive 99 = .ok (.iload_n 1, 1) := by decide +kernel
theorem dX1_receive_100 : decode cX1_receive 100 = .ok (.iload_n 2, 1) := by decide +kernel
theorem dX1_receive_101 : decode cX1_receive 101 = .ok (.invokevirtual 91, 3) := by decide +kernel
theorem dX1_receive_104 : decode cX1_receive 104 = .ok (.goto 39, 3) := by decide +kernel
theorem dX1_receive_107 : decode cX1_receive 107 = .ok (.aload_n 0, 1) := by decide +kernel
theorem dX1_receive_108 : decode cX1_receive 108 = .ok (.getfield 41, 3) := by decide +kernel
theorem dX1_receive_111 : decode cX1_receive 111 = .ok (.iload_n 2, 1) := by decide +kernel
theorem dX1_receive_112 : decode cX1_receive 112 = .ok (.iaload, 1) := by decide +kernel
theorem dX1_receive_113 : decode cX1_receive 113 = .ok (.aload_n 0, 1) := by decide +kernel
theorem dX1_receive_114 : decode cX1_receive 114 = .ok (.getfield 32, 3) := by decide +kernel
theorem dX1_receive_117 : decode cX1_receive 117 = .ok (.iload_n 2, 1) := by decide +kernel
theorem dX1_receive_118 : decode cX1_receive 118 = .ok (.iconst 3, 1) := by decide +kernel
theorem dX1_receive_119 : decode cX1_receive 119 = .ok (.irem, 1) := by decide +kernel
theorem dX1_receive_120 : decode cX1_receive 120 = .ok (.iaload, 1) := by decide +kernel
theorem dX1_receive_121 : decode cX1_receive 121 = .ok (.if_icmp .ge 22, 3) := by decide +kernel
theorem dX1_receive_124 : decode cX1_receive 124 = .ok (.aload_n 0, 1) := by decide +kernel
theorem dX1_receive_125 : decode cX1_receive 125 = .ok (.iload_n 2, 1) := by decide +kernel
theorem dX1_receive_126 : decode cX1_receive 126 = .ok (.aload_n 0, 1) := by decide +kernel
theorem dX1_receive_127 : decode cX1_receive 127 = .ok (.getfield 41, 3) := by decide +kernel
theorem dX1_receive_130 : decode cX1_receive 130 = .ok (.iload_n 2, 1) := by decide +kernel
theorem dX1_receive_131 : decode cX1_receive 131 = .ok (.iaload, 1) := by decide +kernel
theorem dX1_receive_132 : decode cX1_receive 132 = .ok (.iconst 1, 1) := by decide +kernel
theorem dX1_receive_133 : decode cX1_receive 133 = .ok (.iadd, 1) := by decide +kernel
theorem dX1_receive_134 : decode cX1_receive 134 = .ok (.invokevirtual 87, 3) := by decide +kernel
theorem dX1_receive_137 : decode cX1_receive 137 = .ok (.aload_n 0, 1) := by decide +kernel
theorem dX1_receive_138 : decode cX1_receive 138 = .ok (.iload_n 1, 1) := by decide +kernel
theorem dX1_receive_139 : decode cX1_receive 139 = .ok (.iload_n 2, 1) := by decide +kernel
theorem dX1_receive_140 : decode cX1_receive 140 = .ok (.invokevirtual 91, 3) := by decide +kernel
theorem dX1_receive_143 : decode cX1_receive 143 = .ok (.return_, 1) := by decide +kernel
set_option maxRecDepth 20000 in
theorem ggX1_advertise_X1_receive : GoodIn wsX1_advertise wsX1_receive := goodIn_r _ [8, 2, 9, 10, 11, 12, 13, 14, 15, 7, 16, 17, 18, 19, 20, 21, 22, 23, 24, 25, 26, 27, 28, 29, 30, 31, 32, 33, 34, 35, 36, 37, 38, 39, 40, 41, 42, 43, 44, 45, 46, 47, 48, 49, 50, 51, 52, 53, 54, 55, 56, 57, 58] (by decide +kernel) (by decide +kernel)
set_option maxRecDepth 20000 in
theorem gX1_advertise_X1_receive : GoodIn wsX1_advertise (wsV RX1 94 RX1 yX1_receive wsX1_receive) := goodIn_app (goodIn_of _ (by decide +kernel)) ggX1_advertise_X1_receive
theorem dX1_advertise_0 : decode cX1_advertise 0 = .ok (.aload_n 0, 1) := by decide +kernel
theorem dX1_advertise_1 : decode cX1_advertise 1 = .ok (.getfield 56, 3) := by decide +kernel
theorem dX1_advertise_4 : decode cX1_advertise 4 = .ok (.iload_n 1, 1) := by decide +kernel
theorem dX1_advertise_5 : decode cX1_advertise 5 = .ok (.iconst 3, 1) := by decide +kernel
theorem dX1_advertise_6 : decode cX1_advertise 6 = .ok (.irem, 1) := by decide +kernel
theorem dX1_advertise_7 : decode cX1_advertise 7 = .ok (.dup2, 1) := by decide +kernel
theorem dX1_advertise_8 : decode cX1_advertise 8 = .ok (.iaload, 1) := by decide +kernel
theorem dX1_advertise_9 : decode cX1_advertise 9 = .ok (.iconst 1, 1) := by decide +kernel
theorem dX1_advertise_10 : decode cX1_advertise 10 = .ok (.iadd, 1) := by decide +kernel
theorem dX1_advertise_11 : decode cX1_advertise 11 = .ok (.iastore, 1) := by decide +kernel
theorem dX1_advertise_12 : decode cX1_advertise 12 = .ok (.iload_n 1, 1) := by decide +kernel
theorem dX1_advertise_13 : decode cX1_advertise 13 = .ok (.iconst 3, 1) := by decide +kernel
theorem dX1_advertise_14 : decode cX1_advertise 14 = .ok (.irem, 1) := by decide +kernel
theorem dX1_advertise_15 : decode cX1_advertise 15 = .ok (.istore_n 3, 1) := by decide +kernel
theorem dX1_advertise_16 : decode cX1_advertise 16 = .ok (.iload_n 3, 1) := by decide +kernel
theorem dX1_advertise_17 : decode cX1_advertise 17 = .ok (.bipush 12, 2) := by decide +kernel
theorem dX1_advertise_19 : decode cX1_advertise 19 = .ok (.if_icmp .ge 47, 3) := by decide +kernel
theorem dX1_advertise_22 : decode cX1_advertise 22 = .ok (.iload_n 3, 1) := by decide +kernel
theorem dX1_advertise_23 : decode cX1_advertise 23 = .ok (.iload_n 1, 1) := by decide +kernel
theorem dX1_advertise_24 : decode cX1_advertise 24 = .ok (.if_icmp .eq 36, 3) := by decide +kernel
theorem dX1_advertise_27 : decode cX1_advertise 27 = .ok (.aload_n 0, 1) := by decide +kernel
theorem dX1_advertise_28 : decode cX1_advertise 28 = .ok (.getfield 35, 3) := by decide +kernel
theorem dX1_advertise_31 : decode cX1_advertise 31 = .ok (.iload_n 3, 1) := by decide +kernel
theorem dX1_advertise_32 : decode cX1_advertise 32 = .ok (.iaload, 1) := by decide +kernel
theorem dX1_advertise_33 : decode cX1_advertise 33 = .ok (.ifCond .eq 27, 3) := by decide +kernel
theorem dX1_advertise_36 : decode cX1_advertise 36 = .ok (.aload_n 0, 1) := by decide +kernel
theorem dX1_advertise_37 : decode cX1_advertise 37 = .ok (.getfield 23, 3) := by decide +kernel
theorem dX1_advertise_40 : decode cX1_advertise 40 = .ok (.iconst 4, 1) := by decide +kernel
theorem dX1_advertise_41 : decode cX1_advertise 41 = .ok (.iload_n 1, 1) := by decide +kernel
theorem dX1_advertise_42 : decode cX1_advertise 42 = .ok (.iconst 3, 1) := by decide +kernel
theorem dX1_advertise_43 : decode cX1_advertise 43 = .ok (.idiv, 1) := by decide +kernel
theorem dX1_advertise_44 : decode cX1_advertise 44 = .ok (.imul, 1) := by decide +kernel
theorem dX1_advertise_45 : decode cX1_advertise 45 = .ok (.iload_n 3, 1) := by decide +kernel
theorem dX1_advertise_46 : decode cX1_advertise 46 = .ok (.iconst 3, 1) := by decide +kernel
theorem dX1_advertise_47 : decode cX1_advertise 47 = .ok (.idiv, 1) := by decide +kernel
theorem dX1_advertise_48 : decode cX1_advertise 48 = .ok (.iadd, 1) := by decide +kernel
theorem dX1_advertise_49 : decode cX1_advertise 49 = .ok (.baload, 1) := by decide +kernel
theorem dX1_advertise_50 : decode cX1_advertise 50 = .ok (.ifCond .ne 10, 3) := by decide +kernel
theorem dX1_advertise_53 : decode cX1_advertise 53 = .ok (.aload_n 0, 1) := by decide +kernel
theorem dX1_advertise_54 : decode cX1_advertise 54 = .ok (.iload_n 1, 1) := by decide +kernel
theorem dX1_advertise_55 : decode cX1_advertise 55 = .ok (.iload_n 3, 1) := by decide +kernel
theorem dX1_advertise_56 : decode cX1_advertise 56 = .ok (.iload_n 2, 1) := by decide +kernel
theorem dX1_advertise_57 : decode cX1_advertise 57 = .ok (.invokevirtual 94, 3) := by decide +kernel
theorem dX1_advertise_60 : decode cX1_advertise 60 = .ok (.iinc 3 3, 3) := by decide +kernel
theorem dX1_advertise_63 : decode cX1_advertise 63 = .ok (.goto (-47), 3) := by decide +kernel
theorem dX1_advertise_66 : decode cX1_advertise 66 = .ok (.return_, 1) := by decide +kernel
set_option maxRecDepth 20000 in
theorem ggX1_settle_X1_rest : GoodIn wsX1_settle wsX1_rest := goodIn_r _ [9, 3, 10, 11, 12, 13, 14, 8, 15, 16, 17, 18, 19, 20, 21, 22, 23, 24, 2, 25, 26, 27, 28, 29, 30, 31, 32, 33, 34, 35, 36, 37, 38, 39, 40, 41, 42, 43, 44, 45] (by decide +kernel) (by decide +kernel)
set_option maxRecDepth 20000 in
theorem gX1_settle_X1_rest : GoodIn wsX1_settle (wsV RX1 87 RX1 yX1_rest wsX1_rest) := goodIn_app (goodIn_of _ (by decide +kernel)) ggX1_settle_X1_rest
theorem dX1_settle_0 : decode cX1_settle 0 = .ok (.aload_n 0, 1) := by decide +kernel
theorem dX1_settle_1 : decode cX1_settle 1 = .ok (.getfield 7, 3) := by decide +kernel
theorem dX1_settle_4 : decode cX1_settle 4 = .ok (.iload_n 1, 1) := by decide +kernel
theorem dX1_settle_5 : decode cX1_settle 5 = .ok (.iconst 3, 1) := by decide +kernel
theorem dX1_settle_6 : decode cX1_settle 6 = .ok (.idiv, 1) := by decide +kernel
theorem dX1_settle_7 : decode cX1_settle 7 = .ok (.baload, 1) := by decide +kernel
theorem dX1_settle_8 : decode cX1_settle 8 = .ok (.ifCond .ne 16, 3) := by decide +kernel
theorem dX1_settle_11 : decode cX1_settle 11 = .ok (.aload_n 0, 1) := by decide +kernel
theorem dX1_settle_12 : decode cX1_settle 12 = .ok (.getfield 13, 3) := by decide +kernel
theorem dX1_settle_15 : decode cX1_settle 15 = .ok (.iload_n 1, 1) := by decide +kernel
theorem dX1_settle_16 : decode cX1_settle 16 = .ok (.iaload, 1) := by decide +kernel
theorem dX1_settle_17 : decode cX1_settle 17 = .ok (.ifCond .le 7, 3) := by decide +kernel
theorem dX1_settle_20 : decode cX1_settle 20 = .ok (.iconst 1, 1) := by decide +kernel
theorem dX1_settle_21 : decode cX1_settle 21 = .ok (.goto 4, 3) := by decide +kernel
theorem dX1_settle_24 : decode cX1_settle 24 = .ok (.iconst 0, 1) := by decide +kernel
theorem dX1_settle_25 : decode cX1_settle 25 = .ok (.istore_n 2, 1) := by decide +kernel
theorem dX1_settle_26 : decode cX1_settle 26 = .ok (.iload_n 2, 1) := by decide +kernel
theorem dX1_settle_27 : decode cX1_settle 27 = .ok (.ifCond .eq 25, 3) := by decide +kernel
theorem dX1_settle_30 : decode cX1_settle 30 = .ok (.aload_n 0, 1) := by decide +kernel
theorem dX1_settle_31 : decode cX1_settle 31 = .ok (.getfield 35, 3) := by decide +kernel
theorem dX1_settle_34 : decode cX1_settle 34 = .ok (.iload_n 1, 1) := by decide +kernel
theorem dX1_settle_35 : decode cX1_settle 35 = .ok (.iaload, 1) := by decide +kernel
theorem dX1_settle_36 : decode cX1_settle 36 = .ok (.ifCond .ne 16, 3) := by decide +kernel
theorem dX1_settle_39 : decode cX1_settle 39 = .ok (.aload_n 0, 1) := by decide +kernel
theorem dX1_settle_40 : decode cX1_settle 40 = .ok (.iload_n 1, 1) := by decide +kernel
theorem dX1_settle_41 : decode cX1_settle 41 = .ok (.iconst 0, 1) := by decide +kernel
theorem dX1_settle_42 : decode cX1_settle 42 = .ok (.invokevirtual 87, 3) := by decide +kernel
theorem dX1_settle_45 : decode cX1_settle 45 = .ok (.aload_n 0, 1) := by decide +kernel
theorem dX1_settle_46 : decode cX1_settle 46 = .ok (.getfield 47, 3) := by decide +kernel
theorem dX1_settle_49 : decode cX1_settle 49 = .ok (.iload_n 1, 1) := by decide +kernel
theorem dX1_settle_50 : decode cX1_settle 50 = .ok (.iconst 0, 1) := by decide +kernel
theorem dX1_settle_51 : decode cX1_settle 51 = .ok (.bastore, 1) := by decide +kernel
theorem dX1_settle_52 : decode cX1_settle 52 = .ok (.aload_n 0, 1) := by decide +kernel
theorem dX1_settle_53 : decode cX1_settle 53 = .ok (.getfield 35, 3) := by decide +kernel
theorem dX1_settle_56 : decode cX1_settle 56 = .ok (.iload_n 1, 1) := by decide +kernel
theorem dX1_settle_57 : decode cX1_settle 57 = .ok (.iload_n 2, 1) := by decide +kernel
theorem dX1_settle_58 : decode cX1_settle 58 = .ok (.ifCond .eq 12, 3) := by decide +kernel
theorem dX1_settle_61 : decode cX1_settle 61 = .ok (.aload_n 0, 1) := by decide +kernel
theorem dX1_settle_62 : decode cX1_settle 62 = .ok (.getfield 35, 3) := by decide +kernel
theorem dX1_settle_65 : decode cX1_settle 65 = .ok (.iload_n 1, 1) := by decide +kernel
theorem dX1_settle_66 : decode cX1_settle 66 = .ok (.iaload, 1) := by decide +kernel
theorem dX1_settle_67 : decode cX1_settle 67 = .ok (.goto 4, 3) := by decide +kernel
theorem dX1_settle_70 : decode cX1_settle 70 = .ok (.iconst 0, 1) := by decide +kernel
theorem dX1_settle_71 : decode cX1_settle 71 = .ok (.iastore, 1) := by decide +kernel
theorem dX1_settle_72 : decode cX1_settle 72 = .ok (.return_, 1) := by decide +kernel
set_option maxRecDepth 20000 in
theorem ggX1_setPriority_X1_are : GoodIn wsX1_setPriority wsX1_are := goodIn_r _ [6, 7, 8, 5, 9, 10, 11, 12, 13, 14, 15] (by decide +kernel) (by decide +kernel)
set_option maxRecDepth 20000 in
theorem gX1_setPriority_X1_are : GoodIn wsX1_setPriority (va_wsS RX1 98 yX1_are wsX1_are) := goodIn_app (goodIn_of _ (by decide +kernel)) ggX1_setPriority_X1_are
set_option maxRecDepth 20000 in
theorem ggX1_setPriority_X1_in : GoodIn wsX1_setPriority wsX1_in := goodIn_r _ [12] (by decide +kernel) (by decide +kernel)
set_option maxRecDepth 20000 in
theorem gX1_setPriority_X1_in : GoodIn wsX1_setPriority (va_wsS RX1 63 yX1_in wsX1_in) := goodIn_app (goodIn_of _ (by decide +kernel)) ggX1_setPriority_X1_in
set_option maxRecDepth 20000 in
theorem ggX1_setPriority_X1_goesWell : GoodIn wsX1_setPriority wsX1_goesWell := goodIn_r _ [19, 20, 66, 67, 68, 69, 70, 71, 72, 73, 74, 75, 76, 77, 78, 79, 80, 81, 82, 83, 84] (by decide +kernel) (by decide +kernel)
set_option maxRecDepth 20000 in
theorem gX1_setPriority_X1_goesWell : GoodIn wsX1_setPriority (wsV RX1 102 RX1 yX1_goesWell wsX1_goesWell) := goodIn_app (goodIn_of _ (by decide +kernel)) ggX1_setPriority_X1_goesWell
set_option maxRecDepth 20000 in
theorem ggX1_setPriority_X1_advertise : GoodIn wsX1_setPriority wsX1_advertise := goodIn_r _ [24, 25, 2, 26, 27, 28, 29, 5, 30, 31, 32, 33, 34, 35, 36, 37, 38, 1, 39, 40, 41, 42, 43, 44, 45, 46, 47, 48, 49, 50, 51, 52, 53, 54, 55, 56, 57, 58, 59, 60, 66, 67, 68, 69, 70, 71, 72, 73, 74, 75, 76, 77, 78, 79, 80, 81, 82, 83, 84] (by decide +kernel) (by decide +kernel)
set_option maxRecDepth 20000 in
theorem gX1_setPriority_X1_advertise : GoodIn wsX1_setPriority (wsV RX1 105 RX1 yX1_advertise wsX1_advertise) := goodIn_app (goodIn_of _ (by decide +kernel)) ggX1_setPriority_X1_advertise
set_option maxRecDepth 20000 in
theorem ggX1_setPriority_X1_settle : GoodIn wsX1_setPriority wsX1_settle := goodIn_r _ [64, 65, 1, 2, 59, 41, 42, 43, 5, 44, 33, 31, 45, 46, 47, 48, 49, 50, 51, 52, 53, 35, 36, 37, 38, 39, 40, 66, 67, 68, 69, 70, 71, 72, 73, 74, 75, 76, 77, 78, 79, 80, 81, 82, 83, 84] (by decide +kernel) (by decide +kernel)
set_option maxRecDepth 20000 in
theorem gX1_setPriority_X1_settle : GoodIn wsX1_setPriority (wsV RX1 108 RX1 yX1_settle wsX1_settle) := goodIn_app (goodIn_of _ (by decide +kernel)) ggX1_setPriority_X1_settle
theorem dX1_setPriority_0 : decode cX1_setPriority 0 = .ok (.aload_n 0, 1) := by decide +kernel
theorem dX1_setPriority_1 : decode cX1_setPriority 1 = .ok (.iload_n 1, 1) := by decide +kernel
theorem dX1_setPriority_2 : decode cX1_setPriority 2 = .ok (.iload_n 2, 1) := by decide +kernel
theorem dX1_setPriority_3 : decode cX1_setPriority 3 = .ok (.invokestatic 98, 3) := by decide +kernel
theorem dX1_setPriority_6 : decode cX1_setPriority 6 = .ok (.ifCond .eq 18, 3) := by decide +kernel
theorem dX1_setPriority_9 : decode cX1_setPriority 9 = .ok (.iload_n 3, 1) := by decide +kernel
theorem dX1_setPriority_10 : decode cX1_setPriority 10 = .ok (.iconst 0, 1) := by decide +kernel
theorem dX1_setPriority_11 : decode cX1_setPriority 11 = .ok (.sipush 254, 3) := by decide +kernel
theorem dX1_setPriority_14 : decode cX1_setPriority 14 = .ok (.invokestatic 63, 3) := by decide +kernel
theorem dX1_setPriority_17 : decode cX1_setPriority 17 = .ok (.ifCond .eq 7, 3) := by decide +kernel
theorem dX1_setPriority_20 : decode cX1_setPriority 20 = .ok (.iconst 0, 1) := by decide +kernel
theorem dX1_setPriority_21 : decode cX1_setPriority 21 = .ok (.goto 4, 3) := by decide +kernel
theorem dX1_setPriority_24 : decode cX1_setPriority 24 = .ok (.iconst 1, 1) := by decide +kernel
theorem dX1_setPriority_25 : decode cX1_setPriority 25 = .ok (.invokevirtual 102, 3) := by decide +kernel
theorem dX1_setPriority_28 : decode cX1_setPriority 28 = .ok (.ifCond .ne 5, 3) := by decide +kernel
theorem dX1_setPriority_31 : decode cX1_setPriority 31 = .ok (.iconst 0, 1) := by decide +kernel
theorem dX1_setPriority_32 : decode cX1_setPriority 32 = .ok (.ireturn, 1) := by decide +kernel
theorem dX1_setPriority_33 : decode cX1_setPriority 33 = .ok (.iconst 3, 1) := by decide +kernel
theorem dX1_setPriority_34 : decode cX1_setPriority 34 = .ok (.iload_n 1, 1) := by decide +kernel
theorem dX1_setPriority_35 : decode cX1_setPriority 35 = .ok (.imul, 1) := by decide +kernel
theorem dX1_setPriority_36 : decode cX1_setPriority 36 = .ok (.iload_n 2, 1) := by decide +kernel
theorem dX1_setPriority_37 : decode cX1_setPriority 37 = .ok (.iadd, 1) := by decide +kernel
theorem dX1_setPriority_38 : decode cX1_setPriority 38 = .ok (.istore 4, 2) := by decide +kernel
theorem dX1_setPriority_40 : decode cX1_setPriority 40 = .ok (.aload_n 0, 1) := by decide +kernel
theorem dX1_setPriority_41 : decode cX1_setPriority 41 = .ok (.getfield 13, 3) := by decide +kernel
theorem dX1_setPriority_44 : decode cX1_setPriority 44 = .ok (.iload 4, 2) := by decide +kernel
theorem dX1_setPriority_46 : decode cX1_setPriority 46 = .ok (.iaload, 1) := by decide +kernel
theorem dX1_setPriority_47 : decode cX1_setPriority 47 = .ok (.istore 5, 2) := by decide +kernel
theorem dX1_setPriority_49 : decode cX1_setPriority 49 = .ok (.iload_n 3, 1) := by decide +kernel
theorem dX1_setPriority_50 : decode cX1_setPriority 50 = .ok (.ifCond .ne 21, 3) := by decide +kernel
theorem dX1_setPriority_53 : decode cX1_setPriority 53 = .ok (.aload_n 0, 1) := by decide +kernel
theorem dX1_setPriority_54 : decode cX1_setPriority 54 = .ok (.getfield 35, 3) := by decide +kernel
theorem dX1_setPriority_57 : decode cX1_setPriority 57 = .ok (.iload 4, 2) := by decide +kernel
theorem dX1_setPriority_59 : decode cX1_setPriority 59 = .ok (.iaload, 1) := by decide +kernel
theorem dX1_setPriority_60 : decode cX1_setPriority 60 = .ok (.iconst 2, 1) := by decide +kernel
theorem dX1_setPriority_61 : decode cX1_setPriority 61 = .ok (.if_icmp .ne 10, 3) := by decide +kernel
theorem dX1_setPriority_64 : decode cX1_setPriority 64 = .ok (.aload_n 0, 1) := by decide +kernel
theorem dX1_setPriority_65 : decode cX1_setPriority 65 = .ok (.iload 4, 2) := by decide +kernel
theorem dX1_setPriority_67 : decode cX1_setPriority 67 = .ok (.iconst 0, 1) := by decide +kernel
theorem dX1_setPriority_68 : decode cX1_setPriority 68 = .ok (.invokevirtual 105, 3) := by decide +kernel
theorem dX1_setPriority_71 : decode cX1_setPriority 71 = .ok (.aload_n 0, 1) := by decide +kernel
theorem dX1_setPriority_72 : decode cX1_setPriority 72 = .ok (.getfield 13, 3) := by decide +kernel
theorem dX1_setPriority_75 : decode cX1_setPriority 75 = .ok (.iload 4, 2) := by decide +kernel
theorem dX1_setPriority_77 : decode cX1_setPriority 77 = .ok (.iload_n 3, 1) := by decide +kernel
theorem dX1_setPriority_78 : decode cX1_setPriority 78 = .ok (.iastore, 1) := by decide +kernel
theorem dX1_setPriority_79 : decode cX1_setPriority 79 = .ok (.aload_n 0, 1) := by decide +kernel
theorem dX1_setPriority_80 : decode cX1_setPriority 80 = .ok (.iload 4, 2) := by decide +kernel
theorem dX1_setPriority_82 : decode cX1_setPriority 82 = .ok (.invokevirtual 108, 3) := by decide +kernel
theorem dX1_setPriority_85 : decode cX1_setPriority 85 = .ok (.iload 5, 2) := by decide +kernel
theorem dX1_setPriority_87 : decode cX1_setPriority 87 = .ok (.ireturn, 1) := by decide +kernel
set_option maxRecDepth 20000 in
theorem ggX1_isLink_X1_isRouter : GoodIn wsX1_isLink wsX1_isRouter := goodIn_r _ [4, 5, 6, 3, 7] (by decide +kernel) (by decide +kernel)
set_option maxRecDepth 20000 in
theorem gX1_isLink_X1_isRouter : GoodIn wsX1_isLink (va_wsS RX1 67 yX1_isRouter wsX1_isRouter) := goodIn_app (goodIn_of _ (by decide +kernel)) ggX1_isLink_X1_isRouter
set_option maxRecDepth 20000 in
theorem ggX1_isLink_X1_in : GoodIn wsX1_isLink wsX1_in := goodIn_r _ [7] (by decide +kernel) (by decide +kernel)
set_option maxRecDepth 20000 in
theorem gX1_isLink_X1_in : GoodIn wsX1_isLink (va_wsS RX1 63 yX1_in wsX1_in) := goodIn_app (goodIn_of _ (by decide +kernel)) ggX1_isLink_X1_in
theorem dX1_isLink_0 : decode cX1_isLink 0 = .ok (.iload_n 0, 1) := by decide +kernel
theorem dX1_isLink_1 : decode cX1_isLink 1 = .ok (.invokestatic 67, 3) := by decide +kernel
theorem dX1_isLink_4 : decode cX1_isLink 4 = .ok (.ifCond .eq 16, 3) := by decide +kernel
theorem dX1_isLink_7 : decode cX1_isLink 7 = .ok (.iload_n 1, 1) := by decide +kernel
theorem dX1_isLink_8 : decode cX1_isLink 8 = .ok (.iconst 0, 1) := by decide +kernel
theorem dX1_isLink_9 : decode cX1_isLink 9 = .ok (.iconst 1, 1) := by decide +kernel
theorem dX1_isLink_10 : decode cX1_isLink 10 = .ok (.invokestatic 63, 3) := by decide +kernel
theorem dX1_isLink_13 : decode cX1_isLink 13 = .ok (.ifCond .eq 7, 3) := by decide +kernel
theorem dX1_isLink_16 : decode cX1_isLink 16 = .ok (.iconst 1, 1) := by decide +kernel
theorem dX1_isLink_17 : decode cX1_isLink 17 = .ok (.goto 4, 3) := by decide +kernel
theorem dX1_isLink_20 : decode cX1_isLink 20 = .ok (.iconst 0, 1) := by decide +kernel
theorem dX1_isLink_21 : decode cX1_isLink 21 = .ok (.ireturn, 1) := by decide +kernel
set_option maxRecDepth 20000 in
theorem ggX1_track_X1_isLink : GoodIn wsX1_track wsX1_isLink := goodIn_r _ [5, 6, 7, 4, 8, 9, 10, 11] (by decide +kernel) (by decide +kernel)
set_option maxRecDepth 20000 in
theorem gX1_track_X1_isLink : GoodIn wsX1_track (va_wsS RX1 112 yX1_isLink wsX1_isLink) := goodIn_app (goodIn_of _ (by decide +kernel)) ggX1_track_X1_isLink
set_option maxRecDepth 20000 in
theorem ggX1_track_X1_in : GoodIn wsX1_track wsX1_in := goodIn_r _ [11] (by decide +kernel) (by decide +kernel)
set_option maxRecDepth 20000 in
theorem gX1_track_X1_in : GoodIn wsX1_track (va_wsS RX1 63 yX1_in wsX1_in) := goodIn_app (goodIn_of _ (by decide +kernel)) ggX1_track_X1_in
set_option maxRecDepth 20000 in
theorem ggX1_track_X1_goesWell : GoodIn wsX1_track wsX1_goesWell := goodIn_r _ [15, 16, 17, 18, 19, 20, 21, 22, 23, 24, 25, 26, 27, 28, 29, 30, 31, 32, 33, 34, 35] (by decide +kernel) (by decide +kernel)
set_option maxRecDepth 20000 in
theorem gX1_track_X1_goesWell : GoodIn wsX1_track (wsV RX1 102 RX1 yX1_goesWell wsX1_goesWell) := goodIn_app (goodIn_of _ (by decide +kernel)) ggX1_track_X1_goesWell
theorem dX1_track_0 : decode cX1_track 0 = .ok (.aload_n 0, 1) := by decide +kernel
theorem dX1_track_1 : decode cX1_track 1 = .ok (.iload_n 1, 1) := by decide +kernel
theorem dX1_track_2 : decode cX1_track 2 = .ok (.iload_n 2, 1) := by decide +kernel
theorem dX1_track_3 : decode cX1_track 3 = .ok (.invokestatic 112, 3) := by decide +kernel
theorem dX1_track_6 : decode cX1_track 6 = .ok (.ifCond .eq 17, 3) := by decide +kernel
theorem dX1_track_9 : decode cX1_track 9 = .ok (.iload_n 3, 1) := by decide +kernel
theorem dX1_track_10 : decode cX1_track 10 = .ok (.iconst 0, 1) := by decide +kernel
theorem dX1_track_11 : decode cX1_track 11 = .ok (.bipush 100, 2) := by decide +kernel
theorem dX1_track_13 : decode cX1_track 13 = .ok (.invokestatic 63, 3) := by decide +kernel
theorem dX1_track_16 : decode cX1_track 16 = .ok (.ifCond .eq 7, 3) := by decide +kernel
theorem dX1_track_19 : decode cX1_track 19 = .ok (.iconst 0, 1) := by decide +kernel
theorem dX1_track_20 : decode cX1_track 20 = .ok (.goto 4, 3) := by decide +kernel
theorem dX1_track_23 : decode cX1_track 23 = .ok (.iconst 1, 1) := by decide +kernel
theorem dX1_track_24 : decode cX1_track 24 = .ok (.invokevirtual 102, 3) := by decide +kernel
theorem dX1_track_27 : decode cX1_track 27 = .ok (.ifCond .ne 5, 3) := by decide +kernel
theorem dX1_track_30 : decode cX1_track 30 = .ok (.iconst 0, 1) := by decide +kernel
theorem dX1_track_31 : decode cX1_track 31 = .ok (.ireturn, 1) := by decide +kernel
theorem dX1_track_32 : decode cX1_track 32 = .ok (.aload_n 0, 1) := by decide +kernel
theorem dX1_track_33 : decode cX1_track 33 = .ok (.getfield 17, 3) := by decide +kernel
theorem dX1_track_36 : decode cX1_track 36 = .ok (.iconst 2, 1) := by decide +kernel
theorem dX1_track_37 : decode cX1_track 37 = .ok (.iload_n 1, 1) := by decide +kernel
theorem dX1_track_38 : decode cX1_track 38 = .ok (.imul, 1) := by decide +kernel
theorem dX1_track_39 : decode cX1_track 39 = .ok (.iload_n 2, 1) := by decide +kernel
theorem dX1_track_40 : decode cX1_track 40 = .ok (.iadd, 1) := by decide +kernel
theorem dX1_track_41 : decode cX1_track 41 = .ok (.iaload, 1) := by decide +kernel
theorem dX1_track_42 : decode cX1_track 42 = .ok (.istore 4, 2) := by decide +kernel
theorem dX1_track_44 : decode cX1_track 44 = .ok (.aload_n 0, 1) := by decide +kernel
theorem dX1_track_45 : decode cX1_track 45 = .ok (.getfield 17, 3) := by decide +kernel
theorem dX1_track_48 : decode cX1_track 48 = .ok (.iconst 2, 1) := by decide +kernel
theorem dX1_track_49 : decode cX1_track 49 = .ok (.iload_n 1, 1) := by decide +kernel
theorem dX1_track_50 : decode cX1_track 50 = .ok (.imul, 1) := by decide +kernel
theorem dX1_track_51 : decode cX1_track 51 = .ok (.iload_n 2, 1) := by decide +kernel
theorem dX1_track_52 : decode cX1_track 52 = .ok (.iadd, 1) := by decide +kernel
theorem dX1_track_53 : decode cX1_track 53 = .ok (.iload_n 3, 1) := by decide +kernel
theorem dX1_track_54 : decode cX1_track 54 = .ok (.iastore, 1) := by decide +kernel
theorem dX1_track_55 : decode cX1_track 55 = .ok (.iload 4, 2) := by decide +kernel
theorem dX1_track_57 : decode cX1_track 57 = .ok (.ireturn, 1) := by decide +kernel
set_option maxRecDepth 20000 in
theorem ggX1_setLink_X1_isLink : GoodIn wsX1_setLink wsX1_isLink := goodIn_r _ [5, 6, 7, 4, 8, 9, 10, 11] (by decide +kernel) (by decide +kernel)
set_option maxRecDepth 20000 in
theorem gX1_setLink_X1_isLink : GoodIn wsX1_setLink (va_wsS RX1 112 yX1_isLink wsX1_isLink) := goodIn_app (goodIn_of _ (by decide +kernel)) ggX1_setLink_X1_isLink
set_option maxRecDepth 20000 in
theorem ggX1_setLink_X1_goesWell : GoodIn wsX1_setLink wsX1_goesWell := goodIn_r _ [15, 16, 17, 18, 19, 20, 21, 22, 23, 24, 25, 26, 27, 28, 29, 30, 31, 32, 33, 34, 35] (by decide +kernel) (by decide +kernel)
set_option maxRecDepth 20000 in
theorem gX1_setLink_X1_goesWell : GoodIn wsX1_setLink (wsV RX1 102 RX1 yX1_goesWell wsX1_goesWell) := goodIn_app (goodIn_of _ (by decide +kernel)) ggX1_setLink_X1_goesWell
theorem dX1_setLink_0 : decode cX1_setLink 0 = .ok (.aload_n 0, 1) := by decide +kernel
theorem dX1_setLink_1 : decode cX1_setLink 1 = .ok (.iload_n 1, 1) := by decide +kernel
theorem dX1_setLink_2 : decode cX1_setLink 2 = .ok (.iload_n 2, 1) := by decide +kernel
theorem dX1_setLink_3 : decode cX1_setLink 3 = .ok (.invokestatic 112, 3) := by decide +kernel
theorem dX1_setLink_6 : decode cX1_setLink 6 = .ok (.ifCond .eq 7, 3) := by decide +kernel
theorem dX1_setLink_9 : decode cX1_setLink 9 = .ok (.iconst 0, 1) := by decide +kernel
theorem dX1_setLink_10 : decode cX1_setLink 10 = .ok (.goto 4, 3) := by decide +kernel
theorem dX1_setLink_13 : decode cX1_setLink 13 = .ok (.iconst 1, 1) := by decide +kernel
theorem dX1_setLink_14 : decode cX1_setLink 14 = .ok (.invokevirtual 102, 3) := by decide +kernel
theorem dX1_setLink_17 : decode cX1_setLink 17 = .ok (.ifCond .ne 5, 3) := by decide +kernel
theorem dX1_setLink_20 : decode cX1_setLink 20 = .ok (.iconst 0, 1) := by decide +kernel
theorem dX1_setLink_21 : decode cX1_setLink 21 = .ok (.ireturn, 1) := by decide +kernel
theorem dX1_setLink_22 : decode cX1_setLink 22 = .ok (.aload_n 0, 1) := by decide +kernel
theorem dX1_setLink_23 : decode cX1_setLink 23 = .ok (.getfield 20, 3) := by decide +kernel
theorem dX1_setLink_26 : decode cX1_setLink 26 = .ok (.iconst 2, 1) := by decide +kernel
theorem dX1_setLink_27 : decode cX1_setLink 27 = .ok (.iload_n 1, 1) := by decide +kernel
theorem dX1_setLink_28 : decode cX1_setLink 28 = .ok (.imul, 1) := by decide +kernel
theorem dX1_setLink_29 : decode cX1_setLink 29 = .ok (.iload_n 2, 1) := by decide +kernel
theorem dX1_setLink_30 : decode cX1_setLink 30 = .ok (.iadd, 1) := by decide +kernel
theorem dX1_setLink_31 : decode cX1_setLink 31 = .ok (.baload, 1) := by decide +kernel
theorem dX1_setLink_32 : decode cX1_setLink 32 = .ok (.ifCond .ne 7, 3) := by decide +kernel
theorem dX1_setLink_35 : decode cX1_setLink 35 = .ok (.iconst 1, 1) := by decide +kernel
theorem dX1_setLink_36 : decode cX1_setLink 36 = .ok (.goto 4, 3) := by decide +kernel
theorem dX1_setLink_39 : decode cX1_setLink 39 = .ok (.iconst 0, 1) := by decide +kernel
theorem dX1_setLink_40 : decode cX1_setLink 40 = .ok (.istore 4, 2) := by decide +kernel
theorem dX1_setLink_42 : decode cX1_setLink 42 = .ok (.aload_n 0, 1) := by decide +kernel
theorem dX1_setLink_43 : decode cX1_setLink 43 = .ok (.getfield 20, 3) := by decide +kernel
theorem dX1_setLink_46 : decode cX1_setLink 46 = .ok (.iconst 2, 1) := by decide +kernel
theorem dX1_setLink_47 : decode cX1_setLink 47 = .ok (.iload_n 1, 1) := by decide +kernel
theorem dX1_setLink_48 : decode cX1_setLink 48 = .ok (.imul, 1) := by decide +kernel
theorem dX1_setLink_49 : decode cX1_setLink 49 = .ok (.iload_n 2, 1) := by decide +kernel
theorem dX1_setLink_50 : decode cX1_setLink 50 = .ok (.iadd, 1) := by decide +kernel
theorem dX1_setLink_51 : decode cX1_setLink 51 = .ok (.iload_n 3, 1) := by decide +kernel
theorem dX1_setLink_52 : decode cX1_setLink 52 = .ok (.ifCond .ne 7, 3) := by decide +kernel
theorem dX1_setLink_55 : decode cX1_setLink 55 = .ok (.iconst 1, 1) := by decide +kernel
theorem dX1_setLink_56 : decode cX1_setLink 56 = .ok (.goto 4, 3) := by decide +kernel
theorem dX1_setLink_59 : decode cX1_setLink 59 = .ok (.iconst 0, 1) := by decide +kernel
theorem dX1_setLink_60 : decode cX1_setLink 60 = .ok (.bastore, 1) := by decide +kernel
theorem dX1_setLink_61 : decode cX1_setLink 61 = .ok (.iload 4, 2) := by decide +kernel
theorem dX1_setLink_63 : decode cX1_setLink 63 = .ok (.ireturn, 1) := by decide +kernel
set_option maxRecDepth 20000 in
theorem ggX1_setPeriod_X1_isGroup : GoodIn wsX1_setPeriod wsX1_isGroup := goodIn_r _ [5, 6, 7, 4, 8] (by decide +kernel) (by decide +kernel)
set_option maxRecDepth 20000 in
theorem gX1_setPeriod_X1_isGroup : GoodIn wsX1_setPeriod (va_wsS RX1 71 yX1_isGroup wsX1_isGroup) := goodIn_app (goodIn_of _ (by decide +kernel)) ggX1_setPeriod_X1_isGroup
set_option maxRecDepth 20000 in
theorem ggX1_setPeriod_X1_in : GoodIn wsX1_setPeriod wsX1_in := goodIn_r _ [8] (by decide +kernel) (by decide +kernel)
set_option maxRecDepth 20000 in
theorem gX1_setPeriod_X1_in : GoodIn wsX1_setPeriod (va_wsS RX1 63 yX1_in wsX1_in) := goodIn_app (goodIn_of _ (by decide +kernel)) ggX1_setPeriod_X1_in
set_option maxRecDepth 20000 in
theorem ggX1_setPeriod_X1_goesWell : GoodIn wsX1_setPeriod wsX1_goesWell := goodIn_r _ [12, 13, 14, 15, 16, 17, 18, 19, 20, 21, 22, 23, 24, 25, 26, 27, 28, 29, 30, 31, 32] (by decide +kernel) (by decide +kernel)
set_option maxRecDepth 20000 in
theorem gX1_setPeriod_X1_goesWell : GoodIn wsX1_setPeriod (wsV RX1 102 RX1 yX1_goesWell wsX1_goesWell) := goodIn_app (goodIn_of _ (by decide +kernel)) ggX1_setPeriod_X1_goesWell
theorem dX1_setPeriod_0 : decode cX1_setPeriod 0 = .ok (.aload_n 0, 1) := by decide +kernel
theorem dX1_setPeriod_1 : decode cX1_setPeriod 1 = .ok (.iload_n 1, 1) := by decide +kernel
theorem dX1_setPeriod_2 : decode cX1_setPeriod 2 = .ok (.invokestatic 71, 3) := by decide +kernel
theorem dX1_setPeriod_5 : decode cX1_setPeriod 5 = .ok (.ifCond .eq 17, 3) := by decide +kernel
theorem dX1_setPeriod_8 : decode cX1_setPeriod 8 = .ok (.iload_n 2, 1) := by decide +kernel
theorem dX1_setPeriod_9 : decode cX1_setPeriod 9 = .ok (.iconst 1, 1) := by decide +kernel
theorem dX1_setPeriod_10 : decode cX1_setPeriod 10 = .ok (.bipush 10, 2) := by decide +kernel
theorem dX1_setPeriod_12 : decode cX1_setPeriod 12 = .ok (.invokestatic 63, 3) := by decide +kernel
theorem dX1_setPeriod_15 : decode cX1_setPeriod 15 = .ok (.ifCond .eq 7, 3) := by decide +kernel
theorem dX1_setPeriod_18 : decode cX1_setPeriod 18 = .ok (.iconst 0, 1) := by decide +kernel
theorem dX1_setPeriod_19 : decode cX1_setPeriod 19 = .ok (.goto 4, 3) := by decide +kernel
theorem dX1_setPeriod_22 : decode cX1_setPeriod 22 = .ok (.iconst 1, 1) := by decide +kernel
theorem dX1_setPeriod_23 : decode cX1_setPeriod 23 = .ok (.invokevirtual 102, 3) := by decide +kernel
theorem dX1_setPeriod_26 : decode cX1_setPeriod 26 = .ok (.ifCond .ne 5, 3) := by decide +kernel
theorem dX1_setPeriod_29 : decode cX1_setPeriod 29 = .ok (.iconst 0, 1) := by decide +kernel
theorem dX1_setPeriod_30 : decode cX1_setPeriod 30 = .ok (.ireturn, 1) := by decide +kernel
theorem dX1_setPeriod_31 : decode cX1_setPeriod 31 = .ok (.aload_n 0, 1) := by decide +kernel
theorem dX1_setPeriod_32 : decode cX1_setPeriod 32 = .ok (.getfield 26, 3) := by decide +kernel
theorem dX1_setPeriod_35 : decode cX1_setPeriod 35 = .ok (.iload_n 1, 1) := by decide +kernel
theorem dX1_setPeriod_36 : decode cX1_setPeriod 36 = .ok (.iaload, 1) := by decide +kernel
theorem dX1_setPeriod_37 : decode cX1_setPeriod 37 = .ok (.istore_n 3, 1) := by decide +kernel
theorem dX1_setPeriod_38 : decode cX1_setPeriod 38 = .ok (.aload_n 0, 1) := by decide +kernel
theorem dX1_setPeriod_39 : decode cX1_setPeriod 39 = .ok (.getfield 26, 3) := by decide +kernel
theorem dX1_setPeriod_42 : decode cX1_setPeriod 42 = .ok (.iload_n 1, 1) := by decide +kernel
theorem dX1_setPeriod_43 : decode cX1_setPeriod 43 = .ok (.iload_n 2, 1) := by decide +kernel
theorem dX1_setPeriod_44 : decode cX1_setPeriod 44 = .ok (.iastore, 1) := by decide +kernel
theorem dX1_setPeriod_45 : decode cX1_setPeriod 45 = .ok (.iload_n 3, 1) := by decide +kernel
theorem dX1_setPeriod_46 : decode cX1_setPeriod 46 = .ok (.ireturn, 1) := by decide +kernel
set_option maxRecDepth 20000 in
theorem ggX1_setPreemption_X1_isGroup : GoodIn wsX1_setPreemption wsX1_isGroup := goodIn_r _ [6, 7, 8, 5, 9] (by decide +kernel) (by decide +kernel)
set_option maxRecDepth 20000 in
theorem gX1_setPreemption_X1_isGroup : GoodIn wsX1_setPreemption (va_wsS RX1 71 yX1_isGroup wsX1_isGroup) := goodIn_app (goodIn_of _ (by decide +kernel)) ggX1_setPreemption_X1_isGroup
set_option maxRecDepth 20000 in
theorem ggX1_setPreemption_X1_in : GoodIn wsX1_setPreemption wsX1_in := goodIn_r _ [9] (by decide +kernel) (by decide +kernel)
set_option maxRecDepth 20000 in
theorem gX1_setPreemption_X1_in : GoodIn wsX1_setPreemption (va_wsS RX1 63 yX1_in wsX1_in) := goodIn_app (goodIn_of _ (by decide +kernel)) ggX1_setPreemption_X1_in
set_option maxRecDepth 20000 in
theorem ggX1_setPreemption_X1_goesWell : GoodIn wsX1_setPreemption wsX1_goesWell := goodIn_r _ [13, 14, 15, 16, 17, 18, 19, 20, 21, 22, 23, 24, 25, 26, 27, 28, 29, 30, 31, 32, 33] (by decide +kernel) (by decide +kernel)
set_option maxRecDepth 20000 in
theorem gX1_setPreemption_X1_goesWell : GoodIn wsX1_setPreemption (wsV RX1 102 RX1 yX1_goesWell wsX1_goesWell) := goodIn_app (goodIn_of _ (by decide +kernel)) ggX1_setPreemption_X1_goesWell
theorem dX1_setPreemption_0 : decode cX1_setPreemption 0 = .ok (.aload_n 0, 1) := by decide +kernel
theorem dX1_setPreemption_1 : decode cX1_setPreemption 1 = .ok (.iload_n 1, 1) := by decide +kernel
theorem dX1_setPreemption_2 : decode cX1_setPreemption 2 = .ok (.invokestatic 71, 3) := by decide +kernel
theorem dX1_setPreemption_5 : decode cX1_setPreemption 5 = .ok (.ifCond .eq 17, 3) := by decide +kernel
theorem dX1_setPreemption_8 : decode cX1_setPreemption 8 = .ok (.iload_n 3, 1) := by decide +kernel
theorem dX1_setPreemption_9 : decode cX1_setPreemption 9 = .ok (.iconst 0, 1) := by decide +kernel
theorem dX1_setPreemption_10 : decode cX1_setPreemption 10 = .ok (.bipush 10, 2) := by decide +kernel
theorem dX1_setPreemption_12 : decode cX1_setPreemption 12 = .ok (.invokestatic 63, 3) := by decide +kernel
theorem dX1_setPreemption_15 : decode cX1_setPreemption 15 = .ok (.ifCond .eq 7, 3) := by decide +kernel
theorem dX1_setPreemption_18 : decode cX1_setPreemption 18 = .ok (.iconst 0, 1) := by decide +kernel
theorem dX1_setPreemption_19 : decode cX1_setPreemption 19 = .ok (.goto 4, 3) := by decide +kernel
theorem dX1_setPreemption_22 : decode cX1_setPreemption 22 = .ok (.iconst 1, 1) := by decide +kernel
theorem dX1_setPreemption_23 : decode cX1_setPreemption 23 = .ok (.invokevirtual 102, 3) := by decide +kernel
theorem dX1_setPreemption_26 : decode cX1_setPreemption 26 = .ok (.ifCond .eq 25, 3) := by decide +kernel
theorem dX1_setPreemption_29 : decode cX1_setPreemption 29 = .ok (.aload_n 0, 1) := by decide +kernel
theorem dX1_setPreemption_30 : decode cX1_setPreemption 30 = .ok (.getfield 29, 3) := by decide +kernel
theorem dX1_setPreemption_33 : decode cX1_setPreemption 33 = .ok (.iload_n 1, 1) := by decide +kernel
theorem dX1_setPreemption_34 : decode cX1_setPreemption 34 = .ok (.iload_n 2, 1) := by decide +kernel
theorem dX1_setPreemption_35 : decode cX1_setPreemption 35 = .ok (.ifCond .ne 7, 3) := by decide +kernel
theorem dX1_setPreemption_38 : decode cX1_setPreemption 38 = .ok (.iconst 1, 1) := by decide +kernel
theorem dX1_setPreemption_39 : decode cX1_setPreemption 39 = .ok (.goto 4, 3) := by decide +kernel
theorem dX1_setPreemption_42 : decode cX1_setPreemption 42 = .ok (.iconst 0, 1) := by decide +kernel
theorem dX1_setPreemption_43 : decode cX1_setPreemption 43 = .ok (.bastore, 1) := by decide +kernel
theorem dX1_setPreemption_44 : decode cX1_setPreemption 44 = .ok (.aload_n 0, 1) := by decide +kernel
theorem dX1_setPreemption_45 : decode cX1_setPreemption 45 = .ok (.getfield 32, 3) := by decide +kernel
theorem dX1_setPreemption_48 : decode cX1_setPreemption 48 = .ok (.iload_n 1, 1) := by decide +kernel
theorem dX1_setPreemption_49 : decode cX1_setPreemption 49 = .ok (.iload_n 3, 1) := by decide +kernel
theorem dX1_setPreemption_50 : decode cX1_setPreemption 50 = .ok (.iastore, 1) := by decide +kernel
theorem dX1_setPreemption_51 : decode cX1_setPreemption 51 = .ok (.return_, 1) := by decide +kernel
set_option maxRecDepth 20000 in
theorem ggX1_join_X1_isRouter : GoodIn wsX1_join wsX1_isRouter := goodIn_r _ [5, 6, 7, 4, 8] (by decide +kernel) (by decide +kernel)
set_option maxRecDepth 20000 in
theorem gX1_join_X1_isRouter : GoodIn wsX1_join (va_wsS RX1 67 yX1_isRouter wsX1_isRouter) := goodIn_app (goodIn_of _ (by decide +kernel)) ggX1_join_X1_isRouter
set_option maxRecDepth 20000 in
theorem ggX1_join_X1_goesWell : GoodIn wsX1_join wsX1_goesWell := goodIn_r _ [12, 13, 14, 15, 16, 17, 18, 19, 20, 21, 22, 23, 24, 25, 26, 27, 28, 29, 30, 31, 32] (by decide +kernel) (by decide +kernel)
set_option maxRecDepth 20000 in
theorem gX1_join_X1_goesWell : GoodIn wsX1_join (wsV RX1 102 RX1 yX1_goesWell wsX1_goesWell) := goodIn_app (goodIn_of _ (by decide +kernel)) ggX1_join_X1_goesWell
theorem dX1_join_0 : decode cX1_join 0 = .ok (.aload_n 0, 1) := by decide +kernel
theorem dX1_join_1 : decode cX1_join 1 = .ok (.iload_n 1, 1) := by decide +kernel
theorem dX1_join_2 : decode cX1_join 2 = .ok (.invokestatic 67, 3) := by decide +kernel
theorem dX1_join_5 : decode cX1_join 5 = .ok (.ifCond .eq 19, 3) := by decide +kernel
theorem dX1_join_8 : decode cX1_join 8 = .ok (.iload_n 2, 1) := by decide +kernel
theorem dX1_join_9 : decode cX1_join 9 = .ok (.invokestatic 67, 3) := by decide +kernel
theorem dX1_join_12 : decode cX1_join 12 = .ok (.ifCond .eq 12, 3) := by decide +kernel
theorem dX1_join_15 : decode cX1_join 15 = .ok (.iload_n 1, 1) := by decide +kernel
theorem dX1_join_16 : decode cX1_join 16 = .ok (.iload_n 2, 1) := by decide +kernel
theorem dX1_join_17 : decode cX1_join 17 = .ok (.if_icmp .eq 7, 3) := by decide +kernel
theorem dX1_join_20 : decode cX1_join 20 = .ok (.iconst 0, 1) := by decide +kernel
theorem dX1_join_21 : decode cX1_join 21 = .ok (.goto 4, 3) := by decide +kernel
theorem dX1_join_24 : decode cX1_join 24 = .ok (.iconst 1, 1) := by decide +kernel
theorem dX1_join_25 : decode cX1_join 25 = .ok (.invokevirtual 102, 3) := by decide +kernel
theorem dX1_join_28 : decode cX1_join 28 = .ok (.ifCond .ne 5, 3) := by decide +kernel
theorem dX1_join_31 : decode cX1_join 31 = .ok (.iconst 0, 1) := by decide +kernel
theorem dX1_join_32 : decode cX1_join 32 = .ok (.ireturn, 1) := by decide +kernel
theorem dX1_join_33 : decode cX1_join 33 = .ok (.aload_n 0, 1) := by decide +kernel
theorem dX1_join_34 : decode cX1_join 34 = .ok (.getfield 23, 3) := by decide +kernel
theorem dX1_join_37 : decode cX1_join 37 = .ok (.iconst 4, 1) := by decide +kernel
theorem dX1_join_38 : decode cX1_join 38 = .ok (.iload_n 1, 1) := by decide +kernel
theorem dX1_join_39 : decode cX1_join 39 = .ok (.imul, 1) := by decide +kernel
theorem dX1_join_40 : decode cX1_join 40 = .ok (.iload_n 2, 1) := by decide +kernel
theorem dX1_join_41 : decode cX1_join 41 = .ok (.iadd, 1) := by decide +kernel
theorem dX1_join_42 : decode cX1_join 42 = .ok (.baload, 1) := by decide +kernel
theorem dX1_join_43 : decode cX1_join 43 = .ok (.ifCond .ne 7, 3) := by decide +kernel
theorem dX1_join_46 : decode cX1_join 46 = .ok (.iconst 1, 1) := by decide +kernel
theorem dX1_join_47 : decode cX1_join 47 = .ok (.goto 4, 3) := by decide +kernel
theorem dX1_join_50 : decode cX1_join 50 = .ok (.iconst 0, 1) := by decide +kernel
theorem dX1_join_51 : decode cX1_join 51 = .ok (.istore 4, 2) := by decide +kernel
theorem dX1_join_53 : decode cX1_join 53 = .ok (.aload_n 0, 1) := by decide +kernel
theorem dX1_join_54 : decode cX1_join 54 = .ok (.getfield 23, 3) := by decide +kernel
theorem dX1_join_57 : decode cX1_join 57 = .ok (.iconst 4, 1) := by decide +kernel
theorem dX1_join_58 : decode cX1_join 58 = .ok (.iload_n 1, 1) := by decide +kernel
theorem dX1_join_59 : decode cX1_join 59 = .ok (.imul, 1) := by decide +kernel
theorem dX1_join_60 : decode cX1_join 60 = .ok (.iload_n 2, 1) := by decide +kernel
theorem dX1_join_61 : decode cX1_join 61 = .ok (.iadd, 1) := by decide +kernel
theorem dX1_join_62 : decode cX1_join 62 = .ok (.iload_n 3, 1) := by decide +kernel
theorem dX1_join_63 : decode cX1_join 63 = .ok (.ifCond .ne 7, 3) := by decide +kernel
theorem dX1_join_66 : decode cX1_join 66 = .ok (.iconst 1, 1) := by decide +kernel
theorem dX1_join_67 : decode cX1_join 67 = .ok (.goto 4, 3) := by decide +kernel
theorem dX1_join_70 : decode cX1_join 70 = .ok (.iconst 0, 1) := by decide +kernel
theorem dX1_join_71 : decode cX1_join 71 = .ok (.bastore, 1) := by decide +kernel
theorem dX1_join_72 : decode cX1_join 72 = .ok (.aload_n 0, 1) := by decide +kernel
theorem dX1_join_73 : decode cX1_join 73 = .ok (.getfield 23, 3) := by decide +kernel
theorem dX1_join_76 : decode cX1_join 76 = .ok (.iconst 4, 1) := by decide +kernel
theorem dX1_join_77 : decode cX1_join 77 = .ok (.iload_n 2, 1) := by decide +kernel
theorem dX1_join_78 : decode cX1_join 78 = .ok (.imul, 1) := by decide +kernel
theorem dX1_join_79 : decode cX1_join 79 = .ok (.iload_n 1, 1) := by decide +kernel
theorem dX1_join_80 : decode cX1_join 80 = .ok (.iadd, 1) := by decide +kernel
theorem dX1_join_81 : decode cX1_join 81 = .ok (.iload_n 3, 1) := by decide +kernel
theorem dX1_join_82 : decode cX1_join 82 = .ok (.ifCond .ne 7, 3) := by decide +kernel
theorem dX1_join_85 : decode cX1_join 85 = .ok (.iconst 1, 1) := by decide +kernel
theorem dX1_join_86 : decode cX1_join 86 = .ok (.goto 4, 3) := by decide +kernel
theorem dX1_join_89 : decode cX1_join 89 = .ok (.iconst 0, 1) := by decide +kernel
theorem dX1_join_90 : decode cX1_join 90 = .ok (.bastore, 1) := by decide +kernel
theorem dX1_join_91 : decode cX1_join 91 = .ok (.iload 4, 2) := by decide +kernel
theorem dX1_join_93 : decode cX1_join 93 = .ok (.ireturn, 1) := by decide +kernel
set_option maxRecDepth 20000 in
theorem ggX1_die_X1_isRouter : GoodIn wsX1_die wsX1_isRouter := goodIn_r _ [6, 7, 8, 5, 9] (by decide +kernel) (by decide +kernel)
set_option maxRecDepth 20000 in
theorem gX1_die_X1_isRouter : GoodIn wsX1_die (va_wsS RX1 67 yX1_isRouter wsX1_isRouter) := goodIn_app (goodIn_of _ (by decide +kernel)) ggX1_die_X1_isRouter
set_option maxRecDepth 20000 in
theorem ggX1_die_X1_goesWell : GoodIn wsX1_die wsX1_goesWell := goodIn_r _ [13, 14, 42, 43, 44, 45, 46, 47, 48, 49, 50, 51, 52, 53, 54, 55, 56, 57, 58, 59, 60] (by decide +kernel) (by decide +kernel)
set_option maxRecDepth 20000 in
theorem gX1_die_X1_goesWell : GoodIn wsX1_die (wsV RX1 102 RX1 yX1_goesWell wsX1_goesWell) := goodIn_app (goodIn_of _ (by decide +kernel)) ggX1_die_X1_goesWell
set_option maxRecDepth 20000 in
theorem ggX1_die_X1_settle : GoodIn wsX1_die wsX1_settle := goodIn_r _ [18, 1, 19, 2, 20, 21, 22, 23, 5, 24, 25, 26, 27, 28, 29, 30, 31, 32, 33, 34, 35, 36, 37, 38, 39, 40, 41, 42, 43, 44, 45, 46, 47, 48, 49, 50, 51, 52, 53, 54, 55, 56, 57, 58, 59, 60] (by decide +kernel) (by decide +kernel)
set_option maxRecDepth 20000 in
theorem gX1_die_X1_settle : GoodIn wsX1_die (wsV RX1 108 RX1 yX1_settle wsX1_settle) := goodIn_app (goodIn_of _ (by decide +kernel)) ggX1_die_X1_settle
theorem dX1_die_0 : decode cX1_die 0 = .ok (.aload_n 0, 1) := by decide +kernel
theorem dX1_die_1 : decode cX1_die 1 = .ok (.iload_n 1, 1) := by decide +kernel
theorem dX1_die_2 : decode cX1_die 2 = .ok (.invokestatic 67, 3) := by decide +kernel
theorem dX1_die_5 : decode cX1_die 5 = .ok (.ifCond .ne 7, 3) := by decide +kernel
theorem dX1_die_8 : decode cX1_die 8 = .ok (.iconst 1, 1) := by decide +kernel
theorem dX1_die_9 : decode cX1_die 9 = .ok (.goto 17, 3) := by decide +kernel
theorem dX1_die_12 : decode cX1_die 12 = .ok (.aload_n 0, 1) := by decide +kernel
theorem dX1_die_13 : decode cX1_die 13 = .ok (.getfield 7, 3) := by decide +kernel
theorem dX1_die_16 : decode cX1_die 16 = .ok (.iload_n 1, 1) := by decide +kernel
theorem dX1_die_17 : decode cX1_die 17 = .ok (.baload, 1) := by decide +kernel
theorem dX1_die_18 : decode cX1_die 18 = .ok (.ifCond .eq 7, 3) := by decide +kernel
theorem dX1_die_21 : decode cX1_die 21 = .ok (.iconst 2, 1) := by decide +kernel
theorem dX1_die_22 : decode cX1_die 22 = .ok (.goto 4, 3) := by decide +kernel
theorem dX1_die_25 : decode cX1_die 25 = .ok (.iconst 0, 1) := by decide +kernel
theorem dX1_die_26 : decode cX1_die 26 = .ok (.invokevirtual 102, 3) := by decide +kernel
theorem dX1_die_29 : decode cX1_die 29 = .ok (.ifCond .ne 5, 3) := by decide +kernel
theorem dX1_die_32 : decode cX1_die 32 = .ok (.iconst 0, 1) := by decide +kernel
theorem dX1_die_33 : decode cX1_die 33 = .ok (.ireturn, 1) := by decide +kernel
theorem dX1_die_34 : decode cX1_die 34 = .ok (.iconst 0, 1) := by decide +kernel
theorem dX1_die_35 : decode cX1_die 35 = .ok (.istore_n 2, 1) := by decide +kernel
theorem dX1_die_36 : decode cX1_die 36 = .ok (.aload_n 0, 1) := by decide +kernel
theorem dX1_die_37 : decode cX1_die 37 = .ok (.getfield 7, 3) := by decide +kernel
theorem dX1_die_40 : decode cX1_die 40 = .ok (.iload_n 1, 1) := by decide +kernel
theorem dX1_die_41 : decode cX1_die 41 = .ok (.iconst 1, 1) := by decide +kernel
theorem dX1_die_42 : decode cX1_die 42 = .ok (.bastore, 1) := by decide +kernel
theorem dX1_die_43 : decode cX1_die 43 = .ok (.iconst 0, 1) := by decide +kernel
theorem dX1_die_44 : decode cX1_die 44 = .ok (.istore_n 3, 1) := by decide +kernel
theorem dX1_die_45 : decode cX1_die 45 = .ok (.iload_n 3, 1) := by decide +kernel
theorem dX1_die_46 : decode cX1_die 46 = .ok (.iconst 3, 1) := by decide +kernel
theorem dX1_die_47 : decode cX1_die 47 = .ok (.if_icmp .ge 40, 3) := by decide +kernel
theorem dX1_die_50 : decode cX1_die 50 = .ok (.iload_n 2, 1) := by decide +kernel
theorem dX1_die_51 : decode cX1_die 51 = .ok (.aload_n 0, 1) := by decide +kernel
theorem dX1_die_52 : decode cX1_die 52 = .ok (.getfield 35, 3) := by decide +kernel
theorem dX1_die_55 : decode cX1_die 55 = .ok (.iconst 3, 1) := by decide +kernel
theorem dX1_die_56 : decode cX1_die 56 = .ok (.iload_n 1, 1) := by decide +kernel
theorem dX1_die_57 : decode cX1_die 57 = .ok (.imul, 1) := by decide +kernel
theorem dX1_die_58 : decode cX1_die 58 = .ok (.iload_n 3, 1) := by decide +kernel
theorem dX1_die_59 : decode cX1_die 59 = .ok (.iadd, 1) := by decide +kernel
theorem dX1_die_60 : decode cX1_die 60 = .ok (.iaload, 1) := by decide +kernel
theorem dX1_die_61 : decode cX1_die 61 = .ok (.iconst 2, 1) := by decide +kernel
theorem dX1_die_62 : decode cX1_die 62 = .ok (.if_icmp .ne 7, 3) := by decide +kernel
theorem dX1_die_65 : decode cX1_die 65 = .ok (.iconst 1, 1) := by decide +kernel
theorem dX1_die_66 : decode cX1_die 66 = .ok (.goto 4, 3) := by decide +kernel
theorem dX1_die_69 : decode cX1_die 69 = .ok (.iconst 0, 1) := by decide +kernel
theorem dX1_die_70 : decode cX1_die 70 = .ok (.iadd, 1) := by decide +kernel
theorem dX1_die_71 : decode cX1_die 71 = .ok (.istore_n 2, 1) := by decide +kernel
theorem dX1_die_72 : decode cX1_die 72 = .ok (.aload_n 0, 1) := by decide +kernel
theorem dX1_die_73 : decode cX1_die 73 = .ok (.iconst 3, 1) := by decide +kernel
theorem dX1_die_74 : decode cX1_die 74 = .ok (.iload_n 1, 1) := by decide +kernel
theorem dX1_die_75 : decode cX1_die 75 = .ok (.imul, 1) := by decide +kernel
theorem dX1_die_76 : decode cX1_die 76 = .ok (.iload_n 3, 1) := by decide +kernel
theorem dX1_die_77 : decode cX1_die 77 = .ok (.iadd, 1) := by decide +kernel
theorem dX1_die_78 : decode cX1_die 78 = .ok (.invokevirtual 108, 3) := by decide +kernel
theorem dX1_die_81 : decode cX1_die 81 = .ok (.iinc 3 1, 3) := by decide +kernel
theorem dX1_die_84 : decode cX1_die 84 = .ok (.goto (-39), 3) := by decide +kernel
theorem dX1_die_87 : decode cX1_die 87 = .ok (.iload_n 2, 1) := by decide +kernel
theorem dX1_die_88 : decode cX1_die 88 = .ok (.ireturn, 1) := by decide +kernel
set_option maxRecDepth 20000 in
theorem ggX1_live_X1_isRouter : GoodIn wsX1_live wsX1_isRouter := goodIn_r _ [6, 7, 8, 5, 9] (by decide +kernel) (by decide +kernel)
set_option maxRecDepth 20000 in
theorem gX1_live_X1_isRouter : GoodIn wsX1_live (va_wsS RX1 67 yX1_isRouter wsX1_isRouter) := goodIn_app (goodIn_of _ (by decide +kernel)) ggX1_live_X1_isRouter
set_option maxRecDepth 20000 in
theorem ggX1_live_X1_goesWell : GoodIn wsX1_live wsX1_goesWell := goodIn_r _ [13, 14, 42, 43, 44, 45, 46, 47, 48, 49, 50, 51, 52, 53, 54, 55, 56, 57, 58, 59, 60] (by decide +kernel) (by decide +kernel)
set_option maxRecDepth 20000 in
theorem gX1_live_X1_goesWell : GoodIn wsX1_live (wsV RX1 102 RX1 yX1_goesWell wsX1_goesWell) := goodIn_app (goodIn_of _ (by decide +kernel)) ggX1_live_X1_goesWell
set_option maxRecDepth 20000 in
theorem ggX1_live_X1_settle : GoodIn wsX1_live wsX1_settle := goodIn_r _ [18, 1, 19, 2, 20, 21, 22, 23, 5, 24, 25, 26, 27, 28, 29, 30, 31, 32, 33, 34, 35, 36, 37, 38, 39, 40, 41, 42, 43, 44, 45, 46, 47, 48, 49, 50, 51, 52, 53, 54, 55, 56, 57, 58, 59, 60] (by decide +kernel) (by decide +kernel)
set_option maxRecDepth 20000 in
theorem gX1_live_X1_settle : GoodIn wsX1_live (wsV RX1 108 RX1 yX1_settle wsX1_settle) := goodIn_app (goodIn_of _ (by decide +kernel)) ggX1_live_X1_settle
theorem dX1_live_0 : decode cX1_live 0 = .ok (.aload_n 0, 1) := by decide +kernel
theorem dX1_live_1 : decode cX1_live 1 = .ok (.iload_n 1, 1) := by decide +kernel
theorem dX1_live_2 : decode cX1_live 2 = .ok (.invokestatic 67, 3) := by decide +kernel
theorem dX1_live_5 : decode cX1_live 5 = .ok (.ifCond .ne 7, 3) := by decide +kernel
theorem dX1_live_8 : decode cX1_live 8 = .ok (.iconst 1, 1) := by decide +kernel
theorem dX1_live_9 : decode cX1_live 9 = .ok (.goto 17, 3) := by decide +kernel
theorem dX1_live_12 : decode cX1_live 12 = .ok (.aload_n 0, 1) := by decide +kernel
theorem dX1_live_13 : decode cX1_live 13 = .ok (.getfield 7, 3) := by decide +kernel
theorem dX1_live_16 : decode cX1_live 16 = .ok (.iload_n 1, 1) := by decide +kernel
theorem dX1_live_17 : decode cX1_live 17 = .ok (.baload, 1) := by decide +kernel
theorem dX1_live_18 : decode cX1_live 18 = .ok (.ifCond .eq 7, 3) := by decide +kernel
theorem dX1_live_21 : decode cX1_live 21 = .ok (.iconst 0, 1) := by decide +kernel
theorem dX1_live_22 : decode cX1_live 22 = .ok (.goto 4, 3) := by decide +kernel
theorem dX1_live_25 : decode cX1_live 25 = .ok (.iconst 2, 1) := by decide +kernel
theorem dX1_live_26 : decode cX1_live 26 = .ok (.invokevirtual 102, 3) := by decide +kernel
theorem dX1_live_29 : decode cX1_live 29 = .ok (.ifCond .ne 5, 3) := by decide +kernel
theorem dX1_live_32 : decode cX1_live 32 = .ok (.iconst 0, 1) := by decide +kernel
theorem dX1_live_33 : decode cX1_live 33 = .ok (.ireturn, 1) := by decide +kernel
theorem dX1_live_34 : decode cX1_live 34 = .ok (.iconst 0, 1) := by decide +kernel
theorem dX1_live_35 : decode cX1_live 35 = .ok (.istore_n 2, 1) := by decide +kernel
theorem dX1_live_36 : decode cX1_live 36 = .ok (.aload_n 0, 1) := by decide +kernel
theorem dX1_live_37 : decode cX1_live 37 = .ok (.getfield 7, 3) := by decide +kernel
theorem dX1_live_40 : decode cX1_live 40 = .ok (.iload_n 1, 1) := by decide +kernel
theorem dX1_live_41 : decode cX1_live 41 = .ok (.iconst 0, 1) := by decide +kernel
theorem dX1_live_42 : decode cX1_live 42 = .ok (.bastore, 1) := by decide +kernel
theorem dX1_live_43 : decode cX1_live 43 = .ok (.iconst 0, 1) := by decide +kernel
theorem dX1_live_44 : decode cX1_live 44 = .ok (.istore_n 3, 1) := by decide +kernel
theorem dX1_live_45 : decode cX1_live 45 = .ok (.iload_n 3, 1) := by decide +kernel
theorem dX1_live_46 : decode cX1_live 46 = .ok (.iconst 3, 1) := by decide +kernel
theorem dX1_live_47 : decode cX1_live 47 = .ok (.if_icmp .ge 39, 3) := by decide +kernel
theorem dX1_live_50 : decode cX1_live 50 = .ok (.aload_n 0, 1) := by decide +kernel
theorem dX1_live_51 : decode cX1_live 51 = .ok (.iconst 3, 1) := by decide +kernel
theorem dX1_live_52 : decode cX1_live 52 = .ok (.iload_n 1, 1) := by decide +kernel
theorem dX1_live_53 : decode cX1_live 53 = .ok (.imul, 1) := by decide +kernel
theorem dX1_live_54 : decode cX1_live 54 = .ok (.iload_n 3, 1) := by decide +kernel
theorem dX1_live_55 : decode cX1_live 55 = .ok (.iadd, 1) := by decide +kernel
theorem dX1_live_56 : decode cX1_live 56 = .ok (.invokevirtual 108, 3) := by decide +kernel
theorem dX1_live_59 : decode cX1_live 59 = .ok (.iload_n 2, 1) := by decide +kernel
theorem dX1_live_60 : decode cX1_live 60 = .ok (.aload_n 0, 1) := by decide +kernel
theorem dX1_live_61 : decode cX1_live 61 = .ok (.getfield 35, 3) := by decide +kernel
theorem dX1_live_64 : decode cX1_live 64 = .ok (.iconst 3, 1) := by decide +kernel
theorem dX1_live_65 : decode cX1_live 65 = .ok (.iload_n 1, 1) := by decide +kernel
theorem dX1_live_66 : decode cX1_live 66 = .ok (.imul, 1) := by decide +kernel
theorem dX1_live_67 : decode cX1_live 67 = .ok (.iload_n 3, 1) := by decide +kernel
theorem dX1_live_68 : decode cX1_live 68 = .ok (.iadd, 1) := by decide +kernel
theorem dX1_live_69 : decode cX1_live 69 = .ok (.iaload, 1) := by decide +kernel
theorem dX1_live_70 : decode cX1_live 70 = .ok (.ifCond .ne 7, 3) := by decide +kernel
theorem dX1_live_73 : decode cX1_live 73 = .ok (.iconst 0, 1) := by decide +kernel
theorem dX1_live_74 : decode cX1_live 74 = .ok (.goto 4, 3) := by decide +kernel
theorem dX1_live_77 : decode cX1_live 77 = .ok (.iconst 1, 1) := by decide +kernel
theorem dX1_live_78 : decode cX1_live 78 = .ok (.iadd, 1) := by decide +kernel
theorem dX1_live_79 : decode cX1_live 79 = .ok (.istore_n 2, 1) := by decide +kernel
theorem dX1_live_80 : decode cX1_live 80 = .ok (.iinc 3 1, 3) := by decide +kernel
theorem dX1_live_83 : decode cX1_live 83 = .ok (.goto (-38), 3) := by decide +kernel
theorem dX1_live_86 : decode cX1_live 86 = .ok (.iload_n 2, 1) := by decide +kernel
theorem dX1_live_87 : decode cX1_live 87 = .ok (.ireturn, 1) := by decide +kernel
set_option maxRecDepth 20000 in
theorem ggX1_handOver_X1_are : GoodIn wsX1_handOver wsX1_are := goodIn_r _ [5, 6, 7, 4, 8, 9, 10, 11, 12, 13, 14] (by decide +kernel) (by decide +kernel)
set_option maxRecDepth 20000 in
theorem gX1_handOver_X1_are : GoodIn wsX1_handOver (va_wsS RX1 98 yX1_are wsX1_are) := goodIn_app (goodIn_of _ (by decide +kernel)) ggX1_handOver_X1_are
set_option maxRecDepth 20000 in
theorem ggX1_handOver_X1_goesWell : GoodIn wsX1_handOver wsX1_goesWell := goodIn_r _ [18, 19, 61, 62, 63, 64, 65, 66, 67, 68, 69, 70, 71, 72, 73, 74, 75, 76, 77, 78, 79] (by decide +kernel) (by decide +kernel)
set_option maxRecDepth 20000 in
theorem gX1_handOver_X1_goesWell : GoodIn wsX1_handOver (wsV RX1 102 RX1 yX1_goesWell wsX1_goesWell) := goodIn_app (goodIn_of _ (by decide +kernel)) ggX1_handOver_X1_goesWell
set_option maxRecDepth 20000 in
theorem ggX1_handOver_X1_rest : GoodIn wsX1_handOver wsX1_rest := goodIn_r _ [23, 1, 24, 25, 26, 27, 28, 4, 29, 30, 31, 32, 33, 34, 35, 36, 37, 38, 39, 40, 41, 61, 62, 63, 64, 65, 66, 67, 68, 69, 70, 71, 72, 73, 74, 75, 76, 77, 78, 79] (by decide +kernel) (by decide +kernel)
set_option maxRecDepth 20000 in
theorem gX1_handOver_X1_rest : GoodIn wsX1_handOver (wsV RX1 87 RX1 yX1_rest wsX1_rest) := goodIn_app (goodIn_of _ (by decide +kernel)) ggX1_handOver_X1_rest
set_option maxRecDepth 20000 in
theorem ggX1_handOver_X1_advertise : GoodIn wsX1_handOver wsX1_advertise := goodIn_r _ [45, 46, 1, 47, 48, 49, 50, 4, 51, 25, 52, 24, 53, 35, 36, 37, 38, 39, 40, 41, 20, 21, 22, 23, 26, 27, 28, 29, 30, 31, 32, 33, 34, 54, 55, 56, 57, 58, 59, 60, 61, 62, 63, 64, 65, 66, 67, 68, 69, 70, 71, 72, 73, 74, 75, 76, 77, 78, 79] (by decide +kernel) (by decide +kernel)
set_option maxRecDepth 20000 in
theorem gX1_handOver_X1_advertise : GoodIn wsX1_handOver (wsV RX1 105 RX1 yX1_advertise wsX1_advertise) := goodIn_app (goodIn_of _ (by decide +kernel)) ggX1_handOver_X1_advertise
theorem dX1_handOver_0 : decode cX1_handOver 0 = .ok (.iconst 3, 1) := by decide +kernel
theorem dX1_handOver_1 : decode cX1_handOver 1 = .ok (.iload_n 1, 1) := by decide +kernel
theorem dX1_handOver_2 : decode cX1_handOver 2 = .ok (.imul, 1) := by decide +kernel
theorem dX1_handOver_3 : decode cX1_handOver 3 = .ok (.iload_n 2, 1) := by decide +kernel
theorem dX1_handOver_4 : decode cX1_handOver 4 = .ok (.iadd, 1) := by decide +kernel
theorem dX1_handOver_5 : decode cX1_handOver 5 = .ok (.istore_n 3, 1) := by decide +kernel
theorem dX1_handOver_6 : decode cX1_handOver 6 = .ok (.iload_n 1, 1) := by decide +kernel
theorem dX1_handOver_7 : decode cX1_handOver 7 = .ok (.iload_n 2, 1) := by decide +kernel
theorem dX1_handOver_8 : decode cX1_handOver 8 = .ok (.invokestatic 98, 3) := by decide +kernel
theorem dX1_handOver_11 : decode cX1_handOver 11 = .ok (.ifCond .eq 17, 3) := by decide +kernel
theorem dX1_handOver_14 : decode cX1_handOver 14 = .ok (.aload_n 0, 1) := by decide +kernel
theorem dX1_handOver_15 : decode cX1_handOver 15 = .ok (.getfield 35, 3) := by decide +kernel
theorem dX1_handOver_18 : decode cX1_handOver 18 = .ok (.iload_n 3, 1) := by decide +kernel
theorem dX1_handOver_19 : decode cX1_handOver 19 = .ok (.iaload, 1) := by decide +kernel
theorem dX1_handOver_20 : decode cX1_handOver 20 = .ok (.iconst 2, 1) := by decide +kernel
theorem dX1_handOver_21 : decode cX1_handOver 21 = .ok (.if_icmp .ne 7, 3) := by decide +kernel
theorem dX1_handOver_24 : decode cX1_handOver 24 = .ok (.iconst 1, 1) := by decide +kernel
theorem dX1_handOver_25 : decode cX1_handOver 25 = .ok (.goto 4, 3) := by decide +kernel
theorem dX1_handOver_28 : decode cX1_handOver 28 = .ok (.iconst 0, 1) := by decide +kernel
theorem dX1_handOver_29 : decode cX1_handOver 29 = .ok (.istore 4, 2) := by decide +kernel
theorem dX1_handOver_31 : decode cX1_handOver 31 = .ok (.aload_n 0, 1) := by decide +kernel
theorem dX1_handOver_32 : decode cX1_handOver 32 = .ok (.iload_n 1, 1) := by decide +kernel
theorem dX1_handOver_33 : decode cX1_handOver 33 = .ok (.iload_n 2, 1) := by decide +kernel
theorem dX1_handOver_34 : decode cX1_handOver 34 = .ok (.invokestatic 98, 3) := by decide +kernel
theorem dX1_handOver_37 : decode cX1_handOver 37 = .ok (.ifCond .ne 7, 3) := by decide +kernel
theorem dX1_handOver_40 : decode cX1_handOver 40 = .ok (.iconst 1, 1) := by decide +kernel
theorem dX1_handOver_41 : decode cX1_handOver 41 = .ok (.goto 13, 3) := by decide +kernel
theorem dX1_handOver_44 : decode cX1_handOver 44 = .ok (.iload 4, 2) := by decide +kernel
theorem dX1_handOver_46 : decode cX1_handOver 46 = .ok (.ifCond .eq 7, 3) := by decide +kernel
theorem dX1_handOver_49 : decode cX1_handOver 49 = .ok (.iconst 0, 1) := by decide +kernel
theorem dX1_handOver_50 : decode cX1_handOver 50 = .ok (.goto 4, 3) := by decide +kernel
theorem dX1_handOver_53 : decode cX1_handOver 53 = .ok (.iconst 2, 1) := by decide +kernel
theorem dX1_handOver_54 : decode cX1_handOver 54 = .ok (.invokevirtual 102, 3) := by decide +kernel
theorem dX1_handOver_57 : decode cX1_handOver 57 = .ok (.ifCond .eq 15, 3) := by decide +kernel
theorem dX1_handOver_60 : decode cX1_handOver 60 = .ok (.aload_n 0, 1) := by decide +kernel
theorem dX1_handOver_61 : decode cX1_handOver 61 = .ok (.iload_n 3, 1) := by decide +kernel
theorem dX1_handOver_62 : decode cX1_handOver 62 = .ok (.iconst 0, 1) := by decide +kernel
theorem dX1_handOver_63 : decode cX1_handOver 63 = .ok (.invokevirtual 87, 3) := by decide +kernel
theorem dX1_handOver_66 : decode cX1_handOver 66 = .ok (.aload_n 0, 1) := by decide +kernel
theorem dX1_handOver_67 : decode cX1_handOver 67 = .ok (.iload_n 3, 1) := by decide +kernel
theorem dX1_handOver_68 : decode cX1_handOver 68 = .ok (.iconst 0, 1) := by decide +kernel
theorem dX1_handOver_69 : decode cX1_handOver 69 = .ok (.invokevirtual 105, 3) := by decide +kernel
theorem dX1_handOver_72 : decode cX1_handOver 72 = .ok (.return_, 1) := by decide +kernel
set_option maxRecDepth 20000 in
theorem ggX1_serve_X1_isGroup : GoodIn wsX1_serve wsX1_isGroup := goodIn_r _ [6, 7, 8, 5, 9] (by decide +kernel) (by decide +kernel)
set_option maxRecDepth 20000 in
theorem gX1_serve_X1_isGroup : GoodIn wsX1_serve (va_wsS RX1 71 yX1_isGroup wsX1_isGroup) := goodIn_app (goodIn_of _ (by decide +kernel)) ggX1_serve_X1_isGroup
set_option maxRecDepth 20000 in
theorem ggX1_serve_X1_in : GoodIn wsX1_serve wsX1_in := goodIn_r _ [9] (by decide +kernel) (by decide +kernel)
set_option maxRecDepth 20000 in
theorem gX1_serve_X1_in : GoodIn wsX1_serve (va_wsS RX1 63 yX1_in wsX1_in) := goodIn_app (goodIn_of _ (by decide +kernel)) ggX1_serve_X1_in
set_option maxRecDepth 20000 in
theorem ggX1_serve_X1_goesWell : GoodIn wsX1_serve wsX1_goesWell := goodIn_r _ [13, 14, 15, 16, 17, 18, 19, 20, 21, 22, 23, 24, 25, 26, 27, 28, 29, 30, 31, 32, 33] (by decide +kernel) (by decide +kernel)
set_option maxRecDepth 20000 in
theorem gX1_serve_X1_goesWell : GoodIn wsX1_serve (wsV RX1 102 RX1 yX1_goesWell wsX1_goesWell) := goodIn_app (goodIn_of _ (by decide +kernel)) ggX1_serve_X1_goesWell
theorem dX1_serve_0 : decode cX1_serve 0 = .ok (.aload_n 0, 1) := by decide +kernel
theorem dX1_serve_1 : decode cX1_serve 1 = .ok (.iload_n 1, 1) := by decide +kernel
theorem dX1_serve_2 : decode cX1_serve 2 = .ok (.invokestatic 71, 3) := by decide +kernel
theorem dX1_serve_5 : decode cX1_serve 5 = .ok (.ifCond .eq 17, 3) := by decide +kernel
theorem dX1_serve_8 : decode cX1_serve 8 = .ok (.iload_n 2, 1) := by decide +kernel
theorem dX1_serve_9 : decode cX1_serve 9 = .ok (.iconst 1, 1) := by decide +kernel
theorem dX1_serve_10 : decode cX1_serve 10 = .ok (.bipush 100, 2) := by decide +kernel
theorem dX1_serve_12 : decode cX1_serve 12 = .ok (.invokestatic 63, 3) := by decide +kernel
theorem dX1_serve_15 : decode cX1_serve 15 = .ok (.ifCond .eq 7, 3) := by decide +kernel
theorem dX1_serve_18 : decode cX1_serve 18 = .ok (.iconst 0, 1) := by decide +kernel
theorem dX1_serve_19 : decode cX1_serve 19 = .ok (.goto 4, 3) := by decide +kernel
theorem dX1_serve_22 : decode cX1_serve 22 = .ok (.iconst 1, 1) := by decide +kernel
theorem dX1_serve_23 : decode cX1_serve 23 = .ok (.invokevirtual 102, 3) := by decide +kernel
theorem dX1_serve_26 : decode cX1_serve 26 = .ok (.ifCond .ne 5, 3) := by decide +kernel
theorem dX1_serve_29 : decode cX1_serve 29 = .ok (.iconst 0, 1) := by decide +kernel
theorem dX1_serve_30 : decode cX1_serve 30 = .ok (.ireturn, 1) := by decide +kernel
theorem dX1_serve_31 : decode cX1_serve 31 = .ok (.iconst 0, 1) := by decide +kernel
theorem dX1_serve_32 : decode cX1_serve 32 = .ok (.istore_n 3, 1) := by decide +kernel
theorem dX1_serve_33 : decode cX1_serve 33 = .ok (.iload_n 1, 1) := by decide +kernel
theorem dX1_serve_34 : decode cX1_serve 34 = .ok (.istore 4, 2) := by decide +kernel
theorem dX1_serve_36 : decode cX1_serve 36 = .ok (.iload 4, 2) := by decide +kernel
theorem dX1_serve_38 : decode cX1_serve 38 = .ok (.bipush 12, 2) := by decide +kernel
theorem dX1_serve_40 : decode cX1_serve 40 = .ok (.if_icmp .ge 34, 3) := by decide +kernel
theorem dX1_serve_43 : decode cX1_serve 43 = .ok (.aload_n 0, 1) := by decide +kernel
theorem dX1_serve_44 : decode cX1_serve 44 = .ok (.getfield 35, 3) := by decide +kernel
theorem dX1_serve_47 : decode cX1_serve 47 = .ok (.iload 4, 2) := by decide +kernel
theorem dX1_serve_49 : decode cX1_serve 49 = .ok (.iaload, 1) := by decide +kernel
theorem dX1_serve_50 : decode cX1_serve 50 = .ok (.iconst 2, 1) := by decide +kernel
theorem dX1_serve_51 : decode cX1_serve 51 = .ok (.if_icmp .ne 17, 3) := by decide +kernel
theorem dX1_serve_54 : decode cX1_serve 54 = .ok (.aload_n 0, 1) := by decide +kernel
theorem dX1_serve_55 : decode cX1_serve 55 = .ok (.getfield 44, 3) := by decide +kernel
theorem dX1_serve_58 : decode cX1_serve 58 = .ok (.iload 4, 2) := by decide +kernel
theorem dX1_serve_60 : decode cX1_serve 60 = .ok (.dup2, 1) := by decide +kernel
theorem dX1_serve_61 : decode cX1_serve 61 = .ok (.iaload, 1) := by decide +kernel
theorem dX1_serve_62 : decode cX1_serve 62 = .ok (.iload_n 2, 1) := by decide +kernel
theorem dX1_serve_63 : decode cX1_serve 63 = .ok (.iadd, 1) := by decide +kernel
theorem dX1_serve_64 : decode cX1_serve 64 = .ok (.iastore, 1) := by decide +kernel
theorem dX1_serve_65 : decode cX1_serve 65 = .ok (.iinc 3 1, 3) := by decide +kernel
theorem dX1_serve_68 : decode cX1_serve 68 = .ok (.iinc 4 3, 3) := by decide +kernel
theorem dX1_serve_71 : decode cX1_serve 71 = .ok (.goto (-35), 3) := by decide +kernel
theorem dX1_serve_74 : decode cX1_serve 74 = .ok (.iload_n 3, 1) := by decide +kernel
theorem dX1_serve_75 : decode cX1_serve 75 = .ok (.ireturn, 1) := by decide +kernel
set_option maxRecDepth 20000 in
theorem ggX1_turn_X1_priorityAt : GoodIn wsX1_turn wsX1_priorityAt := goodIn_r _ [9, 10, 11, 12, 45, 46, 47, 48, 49, 50, 51, 52, 53, 54, 55, 56, 57, 58, 59, 60, 61, 62, 63] (by decide +kernel) (by decide +kernel)
set_option maxRecDepth 20000 in
theorem gX1_turn_X1_priorityAt : GoodIn wsX1_turn (wsV RX1 74 RX1 yX1_priorityAt wsX1_priorityAt) := goodIn_app (goodIn_of _ (by decide +kernel)) ggX1_turn_X1_priorityAt
set_option maxRecDepth 20000 in
theorem ggX1_turn_X1_advertise : GoodIn wsX1_turn wsX1_advertise := goodIn_r _ [16, 17, 1, 18, 19, 20, 21, 8, 22, 2, 23, 24, 25, 5, 6, 7, 9, 10, 11, 12, 26, 27, 28, 29, 30, 31, 32, 33, 4, 34, 35, 36, 37, 38, 39, 40, 41, 42, 43, 44, 45, 46, 47, 48, 49, 50, 51, 52, 53, 54, 55, 56, 57, 58, 59, 60, 61, 62, 63] (by decide +kernel) (by decide +kernel)
set_option maxRecDepth 20000 in
theorem gX1_turn_X1_advertise : GoodIn wsX1_turn (wsV RX1 105 RX1 yX1_advertise wsX1_advertise) := goodIn_app (goodIn_of _ (by decide +kernel)) ggX1_turn_X1_advertise
theorem dX1_turn_0 : decode cX1_turn 0 = .ok (.aload_n 0, 1) := by decide +kernel
theorem dX1_turn_1 : decode cX1_turn 1 = .ok (.getfield 35, 3) := by decide +kernel
theorem dX1_turn_4 : decode cX1_turn 4 = .ok (.iload_n 1, 1) := by decide +kernel
theorem dX1_turn_5 : decode cX1_turn 5 = .ok (.iaload, 1) := by decide +kernel
theorem dX1_turn_6 : decode cX1_turn 6 = .ok (.iload_n 2, 1) := by decide +kernel
theorem dX1_turn_7 : decode cX1_turn 7 = .ok (.if_icmp .ne 72, 3) := by decide +kernel
theorem dX1_turn_10 : decode cX1_turn 10 = .ok (.aload_n 0, 1) := by decide +kernel
theorem dX1_turn_11 : decode cX1_turn 11 = .ok (.getfield 38, 3) := by decide +kernel
theorem dX1_turn_14 : decode cX1_turn 14 = .ok (.iload_n 1, 1) := by decide +kernel
theorem dX1_turn_15 : decode cX1_turn 15 = .ok (.dup2, 1) := by decide +kernel
theorem dX1_turn_16 : decode cX1_turn 16 = .ok (.iaload, 1) := by decide +kernel
theorem dX1_turn_17 : decode cX1_turn 17 = .ok (.iconst 1, 1) := by decide +kernel
theorem dX1_turn_18 : decode cX1_turn 18 = .ok (.isub, 1) := by decide +kernel
theorem dX1_turn_19 : decode cX1_turn 19 = .ok (.iastore, 1) := by decide +kernel
theorem dX1_turn_20 : decode cX1_turn 20 = .ok (.aload_n 0, 1) := by decide +kernel
theorem dX1_turn_21 : decode cX1_turn 21 = .ok (.getfield 38, 3) := by decide +kernel
theorem dX1_turn_24 : decode cX1_turn 24 = .ok (.iload_n 1, 1) := by decide +kernel
theorem dX1_turn_25 : decode cX1_turn 25 = .ok (.iaload, 1) := by decide +kernel
theorem dX1_turn_26 : decode cX1_turn 26 = .ok (.ifCond .ne 53, 3) := by decide +kernel
theorem dX1_turn_29 : decode cX1_turn 29 = .ok (.aload_n 0, 1) := by decide +kernel
theorem dX1_turn_30 : decode cX1_turn 30 = .ok (.getfield 50, 3) := by decide +kernel
theorem dX1_turn_33 : decode cX1_turn 33 = .ok (.iload_n 1, 1) := by decide +kernel
theorem dX1_turn_34 : decode cX1_turn 34 = .ok (.dup2, 1) := by decide +kernel
theorem dX1_turn_35 : decode cX1_turn 35 = .ok (.iaload, 1) := by decide +kernel
theorem dX1_turn_36 : decode cX1_turn 36 = .ok (.iload_n 2, 1) := by decide +kernel
theorem dX1_turn_37 : decode cX1_turn 37 = .ok (.iconst 1, 1) := by decide +kernel
theorem dX1_turn_38 : decode cX1_turn 38 = .ok (.if_icmp .ne 7, 3) := by decide +kernel
theorem dX1_turn_41 : decode cX1_turn 41 = .ok (.iconst 1, 1) := by decide +kernel
theorem dX1_turn_42 : decode cX1_turn 42 = .ok (.goto 4, 3) := by decide +kernel
theorem dX1_turn_45 : decode cX1_turn 45 = .ok (.iconst 0, 1) := by decide +kernel
theorem dX1_turn_46 : decode cX1_turn 46 = .ok (.iadd, 1) := by decide +kernel
theorem dX1_turn_47 : decode cX1_turn 47 = .ok (.iastore, 1) := by decide +kernel
theorem dX1_turn_48 : decode cX1_turn 48 = .ok (.aload_n 0, 1) := by decide +kernel
theorem dX1_turn_49 : decode cX1_turn 49 = .ok (.getfield 35, 3) := by decide +kernel
theorem dX1_turn_52 : decode cX1_turn 52 = .ok (.iload_n 1, 1) := by decide +kernel
theorem dX1_turn_53 : decode cX1_turn 53 = .ok (.iconst 2, 1) := by decide +kernel
theorem dX1_turn_54 : decode cX1_turn 54 = .ok (.iastore, 1) := by decide +kernel
theorem dX1_turn_55 : decode cX1_turn 55 = .ok (.aload_n 0, 1) := by decide +kernel
theorem dX1_turn_56 : decode cX1_turn 56 = .ok (.iload_n 1, 1) := by decide +kernel
theorem dX1_turn_57 : decode cX1_turn 57 = .ok (.aload_n 0, 1) := by decide +kernel
theorem dX1_turn_58 : decode cX1_turn 58 = .ok (.iload_n 1, 1) := by decide +kernel
theorem dX1_turn_59 : decode cX1_turn 59 = .ok (.invokevirtual 74, 3) := by decide +kernel
theorem dX1_turn_62 : decode cX1_turn 62 = .ok (.invokevirtual 105, 3) := by decide +kernel
theorem dX1_turn_65 : decode cX1_turn 65 = .ok (.aload_n 0, 1) := by decide +kernel
theorem dX1_turn_66 : decode cX1_turn 66 = .ok (.getfield 38, 3) := by decide +kernel
theorem dX1_turn_69 : decode cX1_turn 69 = .ok (.iload_n 1, 1) := by decide +kernel
theorem dX1_turn_70 : decode cX1_turn 70 = .ok (.aload_n 0, 1) := by decide +kernel
theorem dX1_turn_71 : decode cX1_turn 71 = .ok (.getfield 26, 3) := by decide +kernel
theorem dX1_turn_74 : decode cX1_turn 74 = .ok (.iload_n 1, 1) := by decide +kernel
theorem dX1_turn_75 : decode cX1_turn 75 = .ok (.iconst 3, 1) := by decide +kernel
theorem dX1_turn_76 : decode cX1_turn 76 = .ok (.irem, 1) := by decide +kernel
theorem dX1_turn_77 : decode cX1_turn 77 = .ok (.iaload, 1) := by decide +kernel
theorem dX1_turn_78 : decode cX1_turn 78 = .ok (.iastore, 1) := by decide +kernel
theorem dX1_turn_79 : decode cX1_turn 79 = .ok (.return_, 1) := by decide +kernel
theorem dX1_hasMaster_0 : decode cX1_hasMaster 0 = .ok (.iconst 0, 1) := by decide +kernel
theorem dX1_hasMaster_1 : decode cX1_hasMaster 1 = .ok (.istore_n 2, 1) := by decide +kernel
theorem dX1_hasMaster_2 : decode cX1_hasMaster 2 = .ok (.iload_n 1, 1) := by decide +kernel
theorem dX1_hasMaster_3 : decode cX1_hasMaster 3 = .ok (.istore_n 3, 1) := by decide +kernel
theorem dX1_hasMaster_4 : decode cX1_hasMaster 4 = .ok (.iload_n 3, 1) := by decide +kernel
theorem dX1_hasMaster_5 : decode cX1_hasMaster 5 = .ok (.bipush 12, 2) := by decide +kernel
theorem dX1_hasMaster_7 : decode cX1_hasMaster 7 = .ok (.if_icmp .ge 29, 3) := by decide +kernel
theorem dX1_hasMaster_10 : decode cX1_hasMaster 10 = .ok (.iload_n 2, 1) := by decide +kernel
theorem dX1_hasMaster_11 : decode cX1_hasMaster 11 = .ok (.ifCond .ne 13, 3) := by decide +kernel
theorem dX1_hasMaster_14 : decode cX1_hasMaster 14 = .ok (.aload_n 0, 1) := by decide +kernel
theorem dX1_hasMaster_15 : decode cX1_hasMaster 15 = .ok (.getfield 35, 3) := by decide +kernel
theorem dX1_hasMaster_18 : decode cX1_hasMaster 18 = .ok (.iload_n 3, 1) := by decide +kernel
theorem dX1_hasMaster_19 : decode cX1_hasMaster 19 = .ok (.iaload, 1) := by decide +kernel
theorem dX1_hasMaster_20 : decode cX1_hasMaster 20 = .ok (.iconst 2, 1) := by decide +kernel
theorem dX1_hasMaster_21 : decode cX1_hasMaster 21 = .ok (.if_icmp .ne 7, 3) := by decide +kernel
theorem dX1_hasMaster_24 : decode cX1_hasMaster 24 = .ok (.iconst 1, 1) := by decide +kernel
theorem dX1_hasMaster_25 : decode cX1_hasMaster 25 = .ok (.goto 4, 3) := by decide +kernel
theorem dX1_hasMaster_28 : decode cX1_hasMaster 28 = .ok (.iconst 0, 1) := by decide +kernel
theorem dX1_hasMaster_29 : decode cX1_hasMaster 29 = .ok (.istore_n 2, 1) := by decide +kernel
theorem dX1_hasMaster_30 : decode cX1_hasMaster 30 = .ok (.iinc 3 3, 3) := by decide +kernel
theorem dX1_hasMaster_33 : decode cX1_hasMaster 33 = .ok (.goto (-29), 3) := by decide +kernel
theorem dX1_hasMaster_36 : decode cX1_hasMaster 36 = .ok (.iload_n 2, 1) := by decide +kernel
theorem dX1_hasMaster_37 : decode cX1_hasMaster 37 = .ok (.ireturn, 1) := by decide +kernel
set_option maxRecDepth 20000 in
theorem ggX1_tick_X1_in : GoodIn wsX1_tick wsX1_in := goodIn_r _ [6] (by decide +kernel) (by decide +kernel)
set_option maxRecDepth 20000 in
theorem gX1_tick_X1_in : GoodIn wsX1_tick (va_wsS RX1 63 yX1_in wsX1_in) := goodIn_app (goodIn_of _ (by decide +kernel)) ggX1_tick_X1_in
set_option maxRecDepth 20000 in
theorem ggX1_tick_X1_goesWell : GoodIn wsX1_tick wsX1_goesWell := goodIn_r _ [10, 11, 63, 64, 65, 66, 67, 68, 69, 70, 71, 72, 73, 74, 75, 76, 77, 78, 79, 80, 81] (by decide +kernel) (by decide +kernel)
set_option maxRecDepth 20000 in
theorem gX1_tick_X1_goesWell : GoodIn wsX1_tick (wsV RX1 102 RX1 yX1_goesWell wsX1_goesWell) := goodIn_app (goodIn_of _ (by decide +kernel)) ggX1_tick_X1_goesWell
set_option maxRecDepth 20000 in
theorem ggX1_tick_X1_turn : GoodIn wsX1_tick wsX1_turn := goodIn_r _ [15, 16, 17, 18, 19, 20, 21, 22, 5, 23, 24, 25, 26, 27, 28, 29, 30, 31, 32, 33, 34, 35, 36, 37, 38, 39, 40, 41, 42, 43, 44, 45, 46, 47, 48, 49, 50, 51, 52, 53, 54, 55, 56, 57, 58, 63, 64, 65, 66, 67, 68, 69, 70, 71, 72, 73, 74, 75, 76, 77, 78, 79, 80, 81] (by decide +kernel) (by decide +kernel)
set_option maxRecDepth 20000 in
theorem gX1_tick_X1_turn : GoodIn wsX1_tick (wsV RX1 115 RX1 yX1_turn wsX1_turn) := goodIn_app (goodIn_of _ (by decide +kernel)) ggX1_tick_X1_turn
set_option maxRecDepth 20000 in
theorem ggX1_tick_X1_hasMaster : GoodIn wsX1_tick wsX1_hasMaster := goodIn_r _ [62, 16, 63, 64, 65, 66, 67, 68, 69, 70, 71, 72, 73, 74, 75, 76, 77, 78, 79, 80, 81] (by decide +kernel) (by decide +kernel)
set_option maxRecDepth 20000 in
theorem gX1_tick_X1_hasMaster : GoodIn wsX1_tick (wsV RX1 118 RX1 yX1_hasMaster wsX1_hasMaster) := goodIn_app (goodIn_of _ (by decide +kernel)) ggX1_tick_X1_hasMaster
theorem dX1_tick_0 : decode cX1_tick 0 = .ok (.aload_n 0, 1) := by decide +kernel
theorem dX1_tick_1 : decode cX1_tick 1 = .ok (.iload_n 1, 1) := by decide +kernel
theorem dX1_tick_2 : decode cX1_tick 2 = .ok (.iconst 1, 1) := by decide +kernel
theorem dX1_tick_3 : decode cX1_tick 3 = .ok (.bipush 50, 2) := by decide +kernel
theorem dX1_tick_5 : decode cX1_tick 5 = .ok (.invokestatic 63, 3) := by decide +kernel
theorem dX1_tick_8 : decode cX1_tick 8 = .ok (.ifCond .eq 7, 3) := by decide +kernel
theorem dX1_tick_11 : decode cX1_tick 11 = .ok (.iconst 0, 1) := by decide +kernel
theorem dX1_tick_12 : decode cX1_tick 12 = .ok (.goto 4, 3) := by decide +kernel
theorem dX1_tick_15 : decode cX1_tick 15 = .ok (.iconst 1, 1) := by decide +kernel
theorem dX1_tick_16 : decode cX1_tick 16 = .ok (.invokevirtual 102, 3) := by decide +kernel
theorem dX1_tick_19 : decode cX1_tick 19 = .ok (.ifCond .ne 5, 3) := by decide +kernel
theorem dX1_tick_22 : decode cX1_tick 22 = .ok (.iconst 0, 1) := by decide +kernel
theorem dX1_tick_23 : decode cX1_tick 23 = .ok (.ireturn, 1) := by decide +kernel
theorem dX1_tick_24 : decode cX1_tick 24 = .ok (.iconst 0, 1) := by decide +kernel
theorem dX1_tick_25 : decode cX1_tick 25 = .ok (.istore_n 2, 1) := by decide +kernel
theorem dX1_tick_26 : decode cX1_tick 26 = .ok (.iload_n 2, 1) := by decide +kernel
theorem dX1_tick_27 : decode cX1_tick 27 = .ok (.iload_n 1, 1) := by decide +kernel
theorem dX1_tick_28 : decode cX1_tick 28 = .ok (.iconst 3, 1) := by decide +kernel
theorem dX1_tick_29 : decode cX1_tick 29 = .ok (.imul, 1) := by decide +kernel
theorem dX1_tick_30 : decode cX1_tick 30 = .ok (.if_icmp .ge 81, 3) := by decide +kernel
theorem dX1_tick_33 : decode cX1_tick 33 = .ok (.iload_n 2, 1) := by decide +kernel
theorem dX1_tick_34 : decode cX1_tick 34 = .ok (.iconst 3, 1) := by decide +kernel
theorem dX1_tick_35 : decode cX1_tick 35 = .ok (.irem, 1) := by decide +kernel
theorem dX1_tick_36 : decode cX1_tick 36 = .ok (.istore_n 3, 1) := by decide +kernel
theorem dX1_tick_37 : decode cX1_tick 37 = .ok (.iload_n 3, 1) := by decide +kernel
theorem dX1_tick_38 : decode cX1_tick 38 = .ok (.istore 4, 2) := by decide +kernel
theorem dX1_tick_40 : decode cX1_tick 40 = .ok (.iload 4, 2) := by decide +kernel
theorem dX1_tick_42 : decode cX1_tick 42 = .ok (.bipush 12, 2) := by decide +kernel
theorem dX1_tick_44 : decode cX1_tick 44 = .ok (.if_icmp .ge 16, 3) := by decide +kernel
theorem dX1_tick_47 : decode cX1_tick 47 = .ok (.aload_n 0, 1) := by decide +kernel
theorem dX1_tick_48 : decode cX1_tick 48 = .ok (.iload 4, 2) := by decide +kernel
theorem dX1_tick_50 : decode cX1_tick 50 = .ok (.iconst 2, 1) := by decide +kernel
theorem dX1_tick_51 : decode cX1_tick 51 = .ok (.invokevirtual 115, 3) := by decide +kernel
theorem dX1_tick_54 : decode cX1_tick 54 = .ok (.iinc 4 3, 3) := by decide +kernel
theorem dX1_tick_57 : decode cX1_tick 57 = .ok (.goto (-17), 3) := by decide +kernel
theorem dX1_tick_60 : decode cX1_tick 60 = .ok (.iload_n 3, 1) := by decide +kernel
theorem dX1_tick_61 : decode cX1_tick 61 = .ok (.istore 4, 2) := by decide +kernel
theorem dX1_tick_63 : decode cX1_tick 63 = .ok (.iload 4, 2) := by decide +kernel
theorem dX1_tick_65 : decode cX1_tick 65 = .ok (.bipush 12, 2) := by decide +kernel
theorem dX1_tick_67 : decode cX1_tick 67 = .ok (.if_icmp .ge 16, 3) := by decide +kernel
theorem dX1_tick_70 : decode cX1_tick 70 = .ok (.aload_n 0, 1) := by decide +kernel
theorem dX1_tick_71 : decode cX1_tick 71 = .ok (.iload 4, 2) := by decide +kernel
theorem dX1_tick_73 : decode cX1_tick 73 = .ok (.iconst 1, 1) := by decide +kernel
theorem dX1_tick_74 : decode cX1_tick 74 = .ok (.invokevirtual 115, 3) := by decide +kernel
theorem dX1_tick_77 : decode cX1_tick 77 = .ok (.iinc 4 3, 3) := by decide +kernel
theorem dX1_tick_80 : decode cX1_tick 80 = .ok (.goto (-17), 3) := by decide +kernel
theorem dX1_tick_83 : decode cX1_tick 83 = .ok (.aload_n 0, 1) := by decide +kernel
theorem dX1_tick_84 : decode cX1_tick 84 = .ok (.getfield 53, 3) := by decide +kernel
theorem dX1_tick_87 : decode cX1_tick 87 = .ok (.iload_n 3, 1) := by decide +kernel
theorem dX1_tick_88 : decode cX1_tick 88 = .ok (.dup2, 1) := by decide +kernel
theorem dX1_tick_89 : decode cX1_tick 89 = .ok (.iaload, 1) := by decide +kernel
theorem dX1_tick_90 : decode cX1_tick 90 = .ok (.aload_n 0, 1) := by decide +kernel
theorem dX1_tick_91 : decode cX1_tick 91 = .ok (.iload_n 3, 1) := by decide +kernel
theorem dX1_tick_92 : decode cX1_tick 92 = .ok (.invokevirtual 118, 3) := by decide +kernel
theorem dX1_tick_95 : decode cX1_tick 95 = .ok (.ifCond .eq 7, 3) := by decide +kernel
theorem dX1_tick_98 : decode cX1_tick 98 = .ok (.iconst 0, 1) := by decide +kernel
theorem dX1_tick_99 : decode cX1_tick 99 = .ok (.goto 4, 3) := by decide +kernel
theorem dX1_tick_102 : decode cX1_tick 102 = .ok (.iconst 1, 1) := by decide +kernel
theorem dX1_tick_103 : decode cX1_tick 103 = .ok (.iadd, 1) := by decide +kernel
theorem dX1_tick_104 : decode cX1_tick 104 = .ok (.iastore, 1) := by decide +kernel
theorem dX1_tick_105 : decode cX1_tick 105 = .ok (.iinc 2 1, 3) := by decide +kernel
theorem dX1_tick_108 : decode cX1_tick 108 = .ok (.goto (-82), 3) := by decide +kernel
theorem dX1_tick_111 : decode cX1_tick 111 = .ok (.aload_n 0, 1) := by decide +kernel
theorem dX1_tick_112 : decode cX1_tick 112 = .ok (.dup, 1) := by decide +kernel
theorem dX1_tick_113 : decode cX1_tick 113 = .ok (.getfield 121, 3) := by decide +kernel
theorem dX1_tick_116 : decode cX1_tick 116 = .ok (.iload_n 1, 1) := by decide +kernel
theorem dX1_tick_117 : decode cX1_tick 117 = .ok (.iadd, 1) := by decide +kernel
theorem dX1_tick_118 : decode cX1_tick 118 = .ok (.putfield 121, 3) := by decide +kernel
theorem dX1_tick_121 : decode cX1_tick 121 = .ok (.aload_n 0, 1) := by decide +kernel
theorem dX1_tick_122 : decode cX1_tick 122 = .ok (.getfield 121, 3) := by decide +kernel
theorem dX1_tick_125 : decode cX1_tick 125 = .ok (.ireturn, 1) := by decide +kernel
set_option maxRecDepth 20000 in
theorem ggX1_state_X1_are : GoodIn wsX1_state wsX1_are := goodIn_r _ [5, 6, 7, 4, 8, 9, 10, 11, 12, 13, 14] (by decide +kernel) (by decide +kernel)
set_option maxRecDepth 20000 in
theorem gX1_state_X1_are : GoodIn wsX1_state (va_wsS RX1 98 yX1_are wsX1_are) := goodIn_app (goodIn_of _ (by decide +kernel)) ggX1_state_X1_are
set_option maxRecDepth 20000 in
theorem ggX1_state_X1_goesWell : GoodIn wsX1_state wsX1_goesWell := goodIn_r _ [18, 19, 20, 21, 22, 23, 24, 25, 26, 27, 28, 29, 30, 31, 32, 33, 34, 35, 36, 37, 38] (by decide +kernel) (by decide +kernel)
set_option maxRecDepth 20000 in
theorem gX1_state_X1_goesWell : GoodIn wsX1_state (wsV RX1 102 RX1 yX1_goesWell wsX1_goesWell) := goodIn_app (goodIn_of _ (by decide +kernel)) ggX1_state_X1_goesWell
theorem dX1_state_0 : decode cX1_state 0 = .ok (.aload_n 0, 1) := by decide +kernel
theorem dX1_state_1 : decode cX1_state 1 = .ok (.iload_n 1, 1) := by decide +kernel
theorem dX1_state_2 : decode cX1_state 2 = .ok (.iload_n 2, 1) := by decide +kernel
theorem dX1_state_3 : decode cX1_state 3 = .ok (.invokestatic 98, 3) := by decide +kernel
theorem dX1_state_6 : decode cX1_state 6 = .ok (.ifCond .eq 7, 3) := by decide +kernel
theorem dX1_state_9 : decode cX1_state 9 = .ok (.iconst 0, 1) := by decide +kernel
theorem dX1_state_10 : decode cX1_state 10 = .ok (.goto 4, 3) := by decide +kernel
theorem dX1_state_13 : decode cX1_state 13 = .ok (.iconst 1, 1) := by decide +kernel
theorem dX1_state_14 : decode cX1_state 14 = .ok (.invokevirtual 102, 3) := by decide +kernel
theorem dX1_state_17 : decode cX1_state 17 = .ok (.ifCond .eq 16, 3) := by decide +kernel
theorem dX1_state_20 : decode cX1_state 20 = .ok (.aload_n 0, 1) := by decide +kernel
theorem dX1_state_21 : decode cX1_state 21 = .ok (.getfield 35, 3) := by decide +kernel
theorem dX1_state_24 : decode cX1_state 24 = .ok (.iconst 3, 1) := by decide +kernel
theorem dX1_state_25 : decode cX1_state 25 = .ok (.iload_n 1, 1) := by decide +kernel
theorem dX1_state_26 : decode cX1_state 26 = .ok (.imul, 1) := by decide +kernel
theorem dX1_state_27 : decode cX1_state 27 = .ok (.iload_n 2, 1) := by decide +kernel
theorem dX1_state_28 : decode cX1_state 28 = .ok (.iadd, 1) := by decide +kernel
theorem dX1_state_29 : decode cX1_state 29 = .ok (.iaload, 1) := by decide +kernel
theorem dX1_state_30 : decode cX1_state 30 = .ok (.goto 4, 3) := by decide +kernel
theorem dX1_state_33 : decode cX1_state 33 = .ok (.iconst 0, 1) := by decide +kernel
theorem dX1_state_34 : decode cX1_state 34 = .ok (.ireturn, 1) := by decide +kernel
set_option maxRecDepth 20000 in
theorem ggX1_priority_X1_are : GoodIn wsX1_priority wsX1_are := goodIn_r _ [5, 6, 7, 4, 8, 9, 10, 11, 12, 13, 14] (by decide +kernel) (by decide +kernel)
set_option maxRecDepth 20000 in
theorem gX1_priority_X1_are : GoodIn wsX1_priority (va_wsS RX1 98 yX1_are wsX1_are) := goodIn_app (goodIn_of _ (by decide +kernel)) ggX1_priority_X1_are
set_option maxRecDepth 20000 in
theorem ggX1_priority_X1_goesWell : GoodIn wsX1_priority wsX1_goesWell := goodIn_r _ [18, 19, 27, 28, 29, 30, 31, 32, 33, 34, 35, 36, 37, 38, 39, 40, 41, 42, 43, 44, 45] (by decide +kernel) (by decide +kernel)
set_option maxRecDepth 20000 in
theorem gX1_priority_X1_goesWell : GoodIn wsX1_priority (wsV RX1 102 RX1 yX1_goesWell wsX1_goesWell) := goodIn_app (goodIn_of _ (by decide +kernel)) ggX1_priority_X1_goesWell
set_option maxRecDepth 20000 in
theorem ggX1_priority_X1_priorityAt : GoodIn wsX1_priority wsX1_priorityAt := goodIn_r _ [23, 24, 25, 26, 27, 28, 29, 30, 31, 32, 33, 34, 35, 36, 37, 38, 39, 40, 41, 42, 43, 44, 45] (by decide +kernel) (by decide +kernel)
set_option maxRecDepth 20000 in
theorem gX1_priority_X1_priorityAt : GoodIn wsX1_priority (wsV RX1 74 RX1 yX1_priorityAt wsX1_priorityAt) := goodIn_app (goodIn_of _ (by decide +kernel)) ggX1_priority_X1_priorityAt
theorem dX1_priority_0 : decode cX1_priority 0 = .ok (.iconst 3, 1) := by decide +kernel
theorem dX1_priority_1 : decode cX1_priority 1 = .ok (.iload_n 1, 1) := by decide +kernel
theorem dX1_priority_2 : decode cX1_priority 2 = .ok (.imul, 1) := by decide +kernel
theorem dX1_priority_3 : decode cX1_priority 3 = .ok (.iload_n 2, 1) := by decide +kernel
theorem dX1_priority_4 : decode cX1_priority 4 = .ok (.iadd, 1) := by decide +kernel
theorem dX1_priority_5 : decode cX1_priority 5 = .ok (.istore_n 3, 1) := by decide +kernel
theorem dX1_priority_6 : decode cX1_priority 6 = .ok (.aload_n 0, 1) := by decide +kernel
theorem dX1_priority_7 : decode cX1_priority 7 = .ok (.iload_n 1, 1) := by decide +kernel
theorem dX1_priority_8 : decode cX1_priority 8 = .ok (.iload_n 2, 1) := by decide +kernel
theorem dX1_priority_9 : decode cX1_priority 9 = .ok (.invokestatic 98, 3) := by decide +kernel
theorem dX1_priority_12 : decode cX1_priority 12 = .ok (.ifCond .eq 7, 3) := by decide +kernel
theorem dX1_priority_15 : decode cX1_priority 15 = .ok (.iconst 0, 1) := by decide +kernel
theorem dX1_priority_16 : decode cX1_priority 16 = .ok (.goto 4, 3) := by decide +kernel
theorem dX1_priority_19 : decode cX1_priority 19 = .ok (.iconst 1, 1) := by decide +kernel
theorem dX1_priority_20 : decode cX1_priority 20 = .ok (.invokevirtual 102, 3) := by decide +kernel
theorem dX1_priority_23 : decode cX1_priority 23 = .ok (.ifCond .eq 20, 3) := by decide +kernel
theorem dX1_priority_26 : decode cX1_priority 26 = .ok (.aload_n 0, 1) := by decide +kernel
theorem dX1_priority_27 : decode cX1_priority 27 = .ok (.getfield 35, 3) := by decide +kernel
theorem dX1_priority_30 : decode cX1_priority 30 = .ok (.iload_n 3, 1) := by decide +kernel
theorem dX1_priority_31 : decode cX1_priority 31 = .ok (.iaload, 1) := by decide +kernel
theorem dX1_priority_32 : decode cX1_priority 32 = .ok (.ifCond .eq 11, 3) := by decide +kernel
theorem dX1_priority_35 : decode cX1_priority 35 = .ok (.aload_n 0, 1) := by decide +kernel
theorem dX1_priority_36 : decode cX1_priority 36 = .ok (.iload_n 3, 1) := by decide +kernel
theorem dX1_priority_37 : decode cX1_priority 37 = .ok (.invokevirtual 74, 3) := by decide +kernel
theorem dX1_priority_40 : decode cX1_priority 40 = .ok (.goto 4, 3) := by decide +kernel
theorem dX1_priority_43 : decode cX1_priority 43 = .ok (.iconst 0, 1) := by decide +kernel
theorem dX1_priority_44 : decode cX1_priority 44 = .ok (.ireturn, 1) := by decide +kernel
set_option maxRecDepth 20000 in
theorem ggX1_timer_X1_are : GoodIn wsX1_timer wsX1_are := goodIn_r _ [6, 7, 8, 5, 9, 10, 11, 12, 13, 14, 15] (by decide +kernel) (by decide +kernel)
set_option maxRecDepth 20000 in
theorem gX1_timer_X1_are : GoodIn wsX1_timer (va_wsS RX1 98 yX1_are wsX1_are) := goodIn_app (goodIn_of _ (by decide +kernel)) ggX1_timer_X1_are
set_option maxRecDepth 20000 in
theorem ggX1_timer_X1_goesWell : GoodIn wsX1_timer wsX1_goesWell := goodIn_r _ [19, 20, 21, 22, 23, 24, 25, 26, 27, 28, 29, 30, 31, 32, 33, 34, 35, 36, 37, 38, 39] (by decide +kernel) (by decide +kernel)
set_option maxRecDepth 20000 in
theorem gX1_timer_X1_goesWell : GoodIn wsX1_timer (wsV RX1 102 RX1 yX1_goesWell wsX1_goesWell) := goodIn_app (goodIn_of _ (by decide +kernel)) ggX1_timer_X1_goesWell
theorem dX1_timer_0 : decode cX1_timer 0 = .ok (.iconst 3, 1) := by decide +kernel
theorem dX1_timer_1 : decode cX1_timer 1 = .ok (.iload_n 1, 1) := by decide +kernel
theorem dX1_timer_2 : decode cX1_timer 2 = .ok (.imul, 1) := by decide +kernel
theorem dX1_timer_3 : decode cX1_timer 3 = .ok (.iload_n 2, 1) := by decide +kernel
theorem dX1_timer_4 : decode cX1_timer 4 = .ok (.iadd, 1) := by decide +kernel
theorem dX1_timer_5 : decode cX1_timer 5 = .ok (.istore_n 3, 1) := by decide +kernel
theorem dX1_timer_6 : decode cX1_timer 6 = .ok (.iload_n 1, 1) := by decide +kernel
theorem dX1_timer_7 : decode cX1_timer 7 = .ok (.iload_n 2, 1) := by decide +kernel
theorem dX1_timer_8 : decode cX1_timer 8 = .ok (.invokestatic 98, 3) := by decide +kernel
theorem dX1_timer_11 : decode cX1_timer 11 = .ok (.istore 4, 2) := by decide +kernel
theorem dX1_timer_13 : decode cX1_timer 13 = .ok (.aload_n 0, 1) := by decide +kernel
theorem dX1_timer_14 : decode cX1_timer 14 = .ok (.iload 4, 2) := by decide +kernel
theorem dX1_timer_16 : decode cX1_timer 16 = .ok (.ifCond .ne 7, 3) := by decide +kernel
theorem dX1_timer_19 : decode cX1_timer 19 = .ok (.iconst 1, 1) := by decide +kernel
theorem dX1_timer_20 : decode cX1_timer 20 = .ok (.goto 17, 3) := by decide +kernel
theorem dX1_timer_23 : decode cX1_timer 23 = .ok (.aload_n 0, 1) := by decide +kernel
theorem dX1_timer_24 : decode cX1_timer 24 = .ok (.getfield 35, 3) := by decide +kernel
theorem dX1_timer_27 : decode cX1_timer 27 = .ok (.iload_n 3, 1) := by decide +kernel
theorem dX1_timer_28 : decode cX1_timer 28 = .ok (.iaload, 1) := by decide +kernel
theorem dX1_timer_29 : decode cX1_timer 29 = .ok (.ifCond .ne 7, 3) := by decide +kernel
theorem dX1_timer_32 : decode cX1_timer 32 = .ok (.iconst 2, 1) := by decide +kernel
theorem dX1_timer_33 : decode cX1_timer 33 = .ok (.goto 4, 3) := by decide +kernel
theorem dX1_timer_36 : decode cX1_timer 36 = .ok (.iconst 0, 1) := by decide +kernel
theorem dX1_timer_37 : decode cX1_timer 37 = .ok (.invokevirtual 102, 3) := by decide +kernel
theorem dX1_timer_40 : decode cX1_timer 40 = .ok (.ifCond .eq 12, 3) := by decide +kernel
theorem dX1_timer_43 : decode cX1_timer 43 = .ok (.aload_n 0, 1) := by decide +kernel
theorem dX1_timer_44 : decode cX1_timer 44 = .ok (.getfield 38, 3) := by decide +kernel
theorem dX1_timer_47 : decode cX1_timer 47 = .ok (.iload_n 3, 1) := by decide +kernel
theorem dX1_timer_48 : decode cX1_timer 48 = .ok (.iaload, 1) := by decide +kernel
theorem dX1_timer_49 : decode cX1_timer 49 = .ok (.goto 4, 3) := by decide +kernel
theorem dX1_timer_52 : decode cX1_timer 52 = .ok (.iconst 0, 1) := by decide +kernel
theorem dX1_timer_53 : decode cX1_timer 53 = .ok (.ireturn, 1) := by decide +kernel
set_option maxRecDepth 20000 in
theorem ggX1_masters_X1_isGroup : GoodIn wsX1_masters wsX1_isGroup := goodIn_r _ [5, 6, 7, 4, 8] (by decide +kernel) (by decide +kernel)
set_option maxRecDepth 20000 in
theorem gX1_masters_X1_isGroup : GoodIn wsX1_masters (va_wsS RX1 71 yX1_isGroup wsX1_isGroup) := goodIn_app (goodIn_of _ (by decide +kernel)) ggX1_masters_X1_isGroup
set_option maxRecDepth 20000 in
theorem ggX1_masters_X1_goesWell : GoodIn wsX1_masters wsX1_goesWell := goodIn_r _ [12, 13, 14, 15, 16, 17, 18, 19, 20, 21, 22, 23, 24, 25, 26, 27, 28, 29, 30, 31, 32] (by decide +kernel) (by decide +kernel)
set_option maxRecDepth 20000 in
theorem gX1_masters_X1_goesWell : GoodIn wsX1_masters (wsV RX1 102 RX1 yX1_goesWell wsX1_goesWell) := goodIn_app (goodIn_of _ (by decide +kernel)) ggX1_masters_X1_goesWell
theorem dX1_masters_0 : decode cX1_masters 0 = .ok (.aload_n 0, 1) := by decide +kernel
theorem dX1_masters_1 : decode cX1_masters 1 = .ok (.iload_n 1, 1) := by decide +kernel
theorem dX1_masters_2 : decode cX1_masters 2 = .ok (.invokestatic 71, 3) := by decide +kernel
theorem dX1_masters_5 : decode cX1_masters 5 = .ok (.ifCond .eq 7, 3) := by decide +kernel
theorem dX1_masters_8 : decode cX1_masters 8 = .ok (.iconst 0, 1) := by decide +kernel
theorem dX1_masters_9 : decode cX1_masters 9 = .ok (.goto 4, 3) := by decide +kernel
theorem dX1_masters_12 : decode cX1_masters 12 = .ok (.iconst 1, 1) := by decide +kernel
theorem dX1_masters_13 : decode cX1_masters 13 = .ok (.invokevirtual 102, 3) := by decide +kernel
theorem dX1_masters_16 : decode cX1_masters 16 = .ok (.ifCond .ne 5, 3) := by decide +kernel
theorem dX1_masters_19 : decode cX1_masters 19 = .ok (.iconst 0, 1) := by decide +kernel
theorem dX1_masters_20 : decode cX1_masters 20 = .ok (.ireturn, 1) := by decide +kernel
theorem dX1_masters_21 : decode cX1_masters 21 = .ok (.iconst 0, 1) := by decide +kernel
theorem dX1_masters_22 : decode cX1_masters 22 = .ok (.istore_n 2, 1) := by decide +kernel
theorem dX1_masters_23 : decode cX1_masters 23 = .ok (.iconst 0, 1) := by decide +kernel
theorem dX1_masters_24 : decode cX1_masters 24 = .ok (.istore_n 3, 1) := by decide +kernel
theorem dX1_masters_25 : decode cX1_masters 25 = .ok (.iload_n 3, 1) := by decide +kernel
theorem dX1_masters_26 : decode cX1_masters 26 = .ok (.iconst 4, 1) := by decide +kernel
theorem dX1_masters_27 : decode cX1_masters 27 = .ok (.if_icmp .ge 33, 3) := by decide +kernel
theorem dX1_masters_30 : decode cX1_masters 30 = .ok (.iload_n 2, 1) := by decide +kernel
theorem dX1_masters_31 : decode cX1_masters 31 = .ok (.aload_n 0, 1) := by decide +kernel
theorem dX1_masters_32 : decode cX1_masters 32 = .ok (.getfield 35, 3) := by decide +kernel
theorem dX1_masters_35 : decode cX1_masters 35 = .ok (.iconst 3, 1) := by decide +kernel
theorem dX1_masters_36 : decode cX1_masters 36 = .ok (.iload_n 3, 1) := by decide +kernel
theorem dX1_masters_37 : decode cX1_masters 37 = .ok (.imul, 1) := by decide +kernel
theorem dX1_masters_38 : decode cX1_masters 38 = .ok (.iload_n 1, 1) := by decide +kernel
theorem dX1_masters_39 : decode cX1_masters 39 = .ok (.iadd, 1) := by decide +kernel
theorem dX1_masters_40 : decode cX1_masters 40 = .ok (.iaload, 1) := by decide +kernel
theorem dX1_masters_41 : decode cX1_masters 41 = .ok (.iconst 2, 1) := by decide +kernel
theorem dX1_masters_42 : decode cX1_masters 42 = .ok (.if_icmp .ne 9, 3) := by decide +kernel
theorem dX1_masters_45 : decode cX1_masters 45 = .ok (.iconst 1, 1) := by decide +kernel
theorem dX1_masters_46 : decode cX1_masters 46 = .ok (.iload_n 3, 1) := by decide +kernel
theorem dX1_masters_47 : decode cX1_masters 47 = .ok (.ishl, 1) := by decide +kernel
theorem dX1_masters_48 : decode cX1_masters 48 = .ok (.goto 4, 3) := by decide +kernel
theorem dX1_masters_51 : decode cX1_masters 51 = .ok (.iconst 0, 1) := by decide +kernel
theorem dX1_masters_52 : decode cX1_masters 52 = .ok (.iadd, 1) := by decide +kernel
theorem dX1_masters_53 : decode cX1_masters 53 = .ok (.istore_n 2, 1) := by decide +kernel
theorem dX1_masters_54 : decode cX1_masters 54 = .ok (.iinc 3 1, 3) := by decide +kernel
theorem dX1_masters_57 : decode cX1_masters 57 = .ok (.goto (-32), 3) := by decide +kernel
theorem dX1_masters_60 : decode cX1_masters 60 = .ok (.iload_n 2, 1) := by decide +kernel
theorem dX1_masters_61 : decode cX1_masters 61 = .ok (.ireturn, 1) := by decide +kernel
set_option maxRecDepth 20000 in
theorem ggX1_changes_X1_are : GoodIn wsX1_changes wsX1_are := goodIn_r _ [5, 6, 7, 4, 8, 9, 10, 11, 12, 13, 14] (by decide +kernel) (by decide +kernel)
set_option maxRecDepth 20000 in
theorem gX1_changes_X1_are : GoodIn wsX1_changes (va_wsS RX1 98 yX1_are wsX1_are) := goodIn_app (goodIn_of _ (by decide +kernel)) ggX1_changes_X1_are
set_option maxRecDepth 20000 in
theorem ggX1_changes_X1_goesWell : GoodIn wsX1_changes wsX1_goesWell := goodIn_r _ [18, 19, 20, 21, 22, 23, 24, 25, 26, 27, 28, 29, 30, 31, 32, 33, 34, 35, 36, 37, 38] (by decide +kernel) (by decide +kernel)
set_option maxRecDepth 20000 in
theorem gX1_changes_X1_goesWell : GoodIn wsX1_changes (wsV RX1 102 RX1 yX1_goesWell wsX1_goesWell) := goodIn_app (goodIn_of _ (by decide +kernel)) ggX1_changes_X1_goesWell
theorem dX1_changes_0 : decode cX1_changes 0 = .ok (.aload_n 0, 1) := by decide +kernel
theorem dX1_changes_1 : decode cX1_changes 1 = .ok (.iload_n 1, 1) := by decide +kernel
theorem dX1_changes_2 : decode cX1_changes 2 = .ok (.iload_n 2, 1) := by decide +kernel
theorem dX1_changes_3 : decode cX1_changes 3 = .ok (.invokestatic 98, 3) := by decide +kernel
theorem dX1_changes_6 : decode cX1_changes 6 = .ok (.ifCond .eq 7, 3) := by decide +kernel
theorem dX1_changes_9 : decode cX1_changes 9 = .ok (.iconst 0, 1) := by decide +kernel
theorem dX1_changes_10 : decode cX1_changes 10 = .ok (.goto 4, 3) := by decide +kernel
theorem dX1_changes_13 : decode cX1_changes 13 = .ok (.iconst 1, 1) := by decide +kernel
theorem dX1_changes_14 : decode cX1_changes 14 = .ok (.invokevirtual 102, 3) := by decide +kernel
theorem dX1_changes_17 : decode cX1_changes 17 = .ok (.ifCond .eq 16, 3) := by decide +kernel
theorem dX1_changes_20 : decode cX1_changes 20 = .ok (.aload_n 0, 1) := by decide +kernel
theorem dX1_changes_21 : decode cX1_changes 21 = .ok (.getfield 50, 3) := by decide +kernel
theorem dX1_changes_24 : decode cX1_changes 24 = .ok (.iconst 3, 1) := by decide +kernel
theorem dX1_changes_25 : decode cX1_changes 25 = .ok (.iload_n 1, 1) := by decide +kernel
theorem dX1_changes_26 : decode cX1_changes 26 = .ok (.imul, 1) := by decide +kernel
theorem dX1_changes_27 : decode cX1_changes 27 = .ok (.iload_n 2, 1) := by decide +kernel
theorem dX1_changes_28 : decode cX1_changes 28 = .ok (.iadd, 1) := by decide +kernel
theorem dX1_changes_29 : decode cX1_changes 29 = .ok (.iaload, 1) := by decide +kernel
theorem dX1_changes_30 : decode cX1_changes 30 = .ok (.goto 4, 3) := by decide +kernel
theorem dX1_changes_33 : decode cX1_changes 33 = .ok (.iconst 0, 1) := by decide +kernel
theorem dX1_changes_34 : decode cX1_changes 34 = .ok (.ireturn, 1) := by decide +kernel
set_option maxRecDepth 20000 in
theorem ggX1_gaps_X1_isGroup : GoodIn wsX1_gaps wsX1_isGroup := goodIn_r _ [5, 6, 7, 4, 8] (by decide +kernel) (by decide +kernel)
set_option maxRecDepth 20000 in
theorem gX1_gaps_X1_isGroup : GoodIn wsX1_gaps (va_wsS RX1 71 yX1_isGroup wsX1_isGroup) := goodIn_app (goodIn_of _ (by decide +kernel)) ggX1_gaps_X1_isGroup
set_option maxRecDepth 20000 in
theorem ggX1_gaps_X1_goesWell : GoodIn wsX1_gaps wsX1_goesWell := goodIn_r _ [12, 13, 14, 15, 16, 17, 18, 19, 20, 21, 22, 23, 24, 25, 26, 27, 28, 29, 30, 31, 32] (by decide +kernel) (by decide +kernel)
set_option maxRecDepth 20000 in
theorem gX1_gaps_X1_goesWell : GoodIn wsX1_gaps (wsV RX1 102 RX1 yX1_goesWell wsX1_goesWell) := goodIn_app (goodIn_of _ (by decide +kernel)) ggX1_gaps_X1_goesWell
theorem dX1_gaps_0 : decode cX1_gaps 0 = .ok (.aload_n 0, 1) := by decide +kernel
theorem dX1_gaps_1 : decode cX1_gaps 1 = .ok (.iload_n 1, 1) := by decide +kernel
theorem dX1_gaps_2 : decode cX1_gaps 2 = .ok (.invokestatic 71, 3) := by decide +kernel
theorem dX1_gaps_5 : decode cX1_gaps 5 = .ok (.ifCond .eq 7, 3) := by decide +kernel
theorem dX1_gaps_8 : decode cX1_gaps 8 = .ok (.iconst 0, 1) := by decide +kernel
theorem dX1_gaps_9 : decode cX1_gaps 9 = .ok (.goto 4, 3) := by decide +kernel
theorem dX1_gaps_12 : decode cX1_gaps 12 = .ok (.iconst 1, 1) := by decide +kernel
theorem dX1_gaps_13 : decode cX1_gaps 13 = .ok (.invokevirtual 102, 3) := by decide +kernel
theorem dX1_gaps_16 : decode cX1_gaps 16 = .ok (.ifCond .eq 12, 3) := by decide +kernel
theorem dX1_gaps_19 : decode cX1_gaps 19 = .ok (.aload_n 0, 1) := by decide +kernel
theorem dX1_gaps_20 : decode cX1_gaps 20 = .ok (.getfield 53, 3) := by decide +kernel
theorem dX1_gaps_23 : decode cX1_gaps 23 = .ok (.iload_n 1, 1) := by decide +kernel
theorem dX1_gaps_24 : decode cX1_gaps 24 = .ok (.iaload, 1) := by decide +kernel
theorem dX1_gaps_25 : decode cX1_gaps 25 = .ok (.goto 4, 3) := by decide +kernel
theorem dX1_gaps_28 : decode cX1_gaps 28 = .ok (.iconst 0, 1) := by decide +kernel
theorem dX1_gaps_29 : decode cX1_gaps 29 = .ok (.ireturn, 1) := by decide +kernel
set_option maxRecDepth 20000 in
theorem ggX1_sent_X1_isGroup : GoodIn wsX1_sent wsX1_isGroup := goodIn_r _ [5, 6, 7, 4, 8] (by decide +kernel) (by decide +kernel)
set_option maxRecDepth 20000 in
theorem gX1_sent_X1_isGroup : GoodIn wsX1_sent (va_wsS RX1 71 yX1_isGroup wsX1_isGroup) := goodIn_app (goodIn_of _ (by decide +kernel)) ggX1_sent_X1_isGroup
set_option maxRecDepth 20000 in
theorem ggX1_sent_X1_goesWell : GoodIn wsX1_sent wsX1_goesWell := goodIn_r _ [12, 13, 14, 15, 16, 17, 18, 19, 20, 21, 22, 23, 24, 25, 26, 27, 28, 29, 30, 31, 32] (by decide +kernel) (by decide +kernel)
set_option maxRecDepth 20000 in
theorem gX1_sent_X1_goesWell : GoodIn wsX1_sent (wsV RX1 102 RX1 yX1_goesWell wsX1_goesWell) := goodIn_app (goodIn_of _ (by decide +kernel)) ggX1_sent_X1_goesWell
theorem dX1_sent_0 : decode cX1_sent 0 = .ok (.aload_n 0, 1) := by decide +kernel
theorem dX1_sent_1 : decode cX1_sent 1 = .ok (.iload_n 1, 1) := by decide +kernel
theorem dX1_sent_2 : decode cX1_sent 2 = .ok (.invokestatic 71, 3) := by decide +kernel
theorem dX1_sent_5 : decode cX1_sent 5 = .ok (.ifCond .eq 7, 3) := by decide +kernel
theorem dX1_sent_8 : decode cX1_sent 8 = .ok (.iconst 0, 1) := by decide +kernel
theorem dX1_sent_9 : decode cX1_sent 9 = .ok (.goto 4, 3) := by decide +kernel
theorem dX1_sent_12 : decode cX1_sent 12 = .ok (.iconst 1, 1) := by decide +kernel
theorem dX1_sent_13 : decode cX1_sent 13 = .ok (.invokevirtual 102, 3) := by decide +kernel
theorem dX1_sent_16 : decode cX1_sent 16 = .ok (.ifCond .eq 12, 3) := by decide +kernel
theorem dX1_sent_19 : decode cX1_sent 19 = .ok (.aload_n 0, 1) := by decide +kernel
theorem dX1_sent_20 : decode cX1_sent 20 = .ok (.getfield 56, 3) := by decide +kernel
theorem dX1_sent_23 : decode cX1_sent 23 = .ok (.iload_n 1, 1) := by decide +kernel
theorem dX1_sent_24 : decode cX1_sent 24 = .ok (.iaload, 1) := by decide +kernel
theorem dX1_sent_25 : decode cX1_sent 25 = .ok (.goto 4, 3) := by decide +kernel
theorem dX1_sent_28 : decode cX1_sent 28 = .ok (.iconst 0, 1) := by decide +kernel
theorem dX1_sent_29 : decode cX1_sent 29 = .ok (.ireturn, 1) := by decide +kernel
set_option maxRecDepth 20000 in
theorem ggX1_known_X1_are : GoodIn wsX1_known wsX1_are := goodIn_r _ [5, 6, 7, 4, 8, 9, 10, 11, 12, 13, 14] (by decide +kernel) (by decide +kernel)
set_option maxRecDepth 20000 in
theorem gX1_known_X1_are : GoodIn wsX1_known (va_wsS RX1 98 yX1_are wsX1_are) := goodIn_app (goodIn_of _ (by decide +kernel)) ggX1_known_X1_are
set_option maxRecDepth 20000 in
theorem ggX1_known_X1_goesWell : GoodIn wsX1_known wsX1_goesWell := goodIn_r _ [18, 19, 20, 21, 22, 23, 24, 25, 26, 27, 28, 29, 30, 31, 32, 33, 34, 35, 36, 37, 38] (by decide +kernel) (by decide +kernel)
set_option maxRecDepth 20000 in
theorem gX1_known_X1_goesWell : GoodIn wsX1_known (wsV RX1 102 RX1 yX1_goesWell wsX1_goesWell) := goodIn_app (goodIn_of _ (by decide +kernel)) ggX1_known_X1_goesWell
theorem dX1_known_0 : decode cX1_known 0 = .ok (.aload_n 0, 1) := by decide +kernel
theorem dX1_known_1 : decode cX1_known 1 = .ok (.iload_n 1, 1) := by decide +kernel
theorem dX1_known_2 : decode cX1_known 2 = .ok (.iload_n 2, 1) := by decide +kernel
theorem dX1_known_3 : decode cX1_known 3 = .ok (.invokestatic 98, 3) := by decide +kernel
theorem dX1_known_6 : decode cX1_known 6 = .ok (.ifCond .eq 7, 3) := by decide +kernel
theorem dX1_known_9 : decode cX1_known 9 = .ok (.iconst 0, 1) := by decide +kernel
theorem dX1_known_10 : decode cX1_known 10 = .ok (.goto 4, 3) := by decide +kernel
theorem dX1_known_13 : decode cX1_known 13 = .ok (.iconst 1, 1) := by decide +kernel
theorem dX1_known_14 : decode cX1_known 14 = .ok (.invokevirtual 102, 3) := by decide +kernel
theorem dX1_known_17 : decode cX1_known 17 = .ok (.ifCond .eq 16, 3) := by decide +kernel
theorem dX1_known_20 : decode cX1_known 20 = .ok (.aload_n 0, 1) := by decide +kernel
theorem dX1_known_21 : decode cX1_known 21 = .ok (.getfield 44, 3) := by decide +kernel
theorem dX1_known_24 : decode cX1_known 24 = .ok (.iconst 3, 1) := by decide +kernel
theorem dX1_known_25 : decode cX1_known 25 = .ok (.iload_n 1, 1) := by decide +kernel
theorem dX1_known_26 : decode cX1_known 26 = .ok (.imul, 1) := by decide +kernel
theorem dX1_known_27 : decode cX1_known 27 = .ok (.iload_n 2, 1) := by decide +kernel
theorem dX1_known_28 : decode cX1_known 28 = .ok (.iadd, 1) := by decide +kernel
theorem dX1_known_29 : decode cX1_known 29 = .ok (.iaload, 1) := by decide +kernel
theorem dX1_known_30 : decode cX1_known 30 = .ok (.goto 4, 3) := by decide +kernel
theorem dX1_known_33 : decode cX1_known 33 = .ok (.iconst 0, 1) := by decide +kernel
theorem dX1_known_34 : decode cX1_known 34 = .ok (.ireturn, 1) := by decide +kernel
theorem dX1_repairs_0 : decode cX1_repairs 0 = .ok (.aload_n 0, 1) := by decide +kernel
theorem dX1_repairs_1 : decode cX1_repairs 1 = .ok (.iconst 0, 1) := by decide +kernel
theorem dX1_repairs_2 : decode cX1_repairs 2 = .ok (.putfield 59, 3) := by decide +kernel
theorem dX1_repairs_5 : decode cX1_repairs 5 = .ok (.aload_n 0, 1) := by decide +kernel
theorem dX1_repairs_6 : decode cX1_repairs 6 = .ok (.getfield 81, 3) := by decide +kernel
theorem dX1_repairs_9 : decode cX1_repairs 9 = .ok (.ireturn, 1) := by decide +kernel
set_option maxRecDepth 20000 in
theorem ggX1_isSettled_X1_isGroup : GoodIn wsX1_isSettled wsX1_isGroup := goodIn_r _ [6, 7, 8, 5, 9] (by decide +kernel) (by decide +kernel)
set_option maxRecDepth 20000 in
theorem gX1_isSettled_X1_isGroup : GoodIn wsX1_isSettled (va_wsS RX1 71 yX1_isGroup wsX1_isGroup) := goodIn_app (goodIn_of _ (by decide +kernel)) ggX1_isSettled_X1_isGroup
set_option maxRecDepth 20000 in
theorem ggX1_isSettled_X1_goesWell : GoodIn wsX1_isSettled wsX1_goesWell := goodIn_r _ [13, 14, 19, 20, 21, 22, 23, 24, 25, 26, 27, 28, 29, 30, 31, 32, 33, 34, 35, 36, 37] (by decide +kernel) (by decide +kernel)
set_option maxRecDepth 20000 in
theorem gX1_isSettled_X1_goesWell : GoodIn wsX1_isSettled (wsV RX1 102 RX1 yX1_goesWell wsX1_goesWell) := goodIn_app (goodIn_of _ (by decide +kernel)) ggX1_isSettled_X1_goesWell
set_option maxRecDepth 20000 in
theorem ggX1_isSettled_X1_hasMaster : GoodIn wsX1_isSettled wsX1_hasMaster := goodIn_r _ [18, 1, 19, 20, 21, 22, 23, 24, 25, 26, 27, 28, 29, 30, 31, 32, 33, 34, 35, 36, 37] (by decide +kernel) (by decide +kernel)
set_option maxRecDepth 20000 in
theorem gX1_isSettled_X1_hasMaster : GoodIn wsX1_isSettled (wsV RX1 118 RX1 yX1_hasMaster wsX1_hasMaster) := goodIn_app (goodIn_of _ (by decide +kernel)) ggX1_isSettled_X1_hasMaster
theorem dX1_isSettled_0 : decode cX1_isSettled 0 = .ok (.aload_n 0, 1) := by decide +kernel
theorem dX1_isSettled_1 : decode cX1_isSettled 1 = .ok (.iload_n 1, 1) := by decide +kernel
theorem dX1_isSettled_2 : decode cX1_isSettled 2 = .ok (.invokestatic 71, 3) := by decide +kernel
theorem dX1_isSettled_5 : decode cX1_isSettled 5 = .ok (.ifCond .eq 7, 3) := by decide +kernel
theorem dX1_isSettled_8 : decode cX1_isSettled 8 = .ok (.iconst 0, 1) := by decide +kernel
theorem dX1_isSettled_9 : decode cX1_isSettled 9 = .ok (.goto 4, 3) := by decide +kernel
theorem dX1_isSettled_12 : decode cX1_isSettled 12 = .ok (.iconst 1, 1) := by decide +kernel
theorem dX1_isSettled_13 : decode cX1_isSettled 13 = .ok (.invokevirtual 102, 3) := by decide +kernel
theorem dX1_isSettled_16 : decode cX1_isSettled 16 = .ok (.ifCond .ne 5, 3) := by decide +kernel
theorem dX1_isSettled_19 : decode cX1_isSettled 19 = .ok (.iconst 0, 1) := by decide +kernel
theorem dX1_isSettled_20 : decode cX1_isSettled 20 = .ok (.ireturn, 1) := by decide +kernel
theorem dX1_isSettled_21 : decode cX1_isSettled 21 = .ok (.iconst 0, 1) := by decide +kernel
theorem dX1_isSettled_22 : decode cX1_isSettled 22 = .ok (.istore_n 2, 1) := by decide +kernel
theorem dX1_isSettled_23 : decode cX1_isSettled 23 = .ok (.iconst 1, 1) := by decide +kernel
theorem dX1_isSettled_24 : decode cX1_isSettled 24 = .ok (.istore_n 3, 1) := by decide +kernel
theorem dX1_isSettled_25 : decode cX1_isSettled 25 = .ok (.iload_n 1, 1) := by decide +kernel
theorem dX1_isSettled_26 : decode cX1_isSettled 26 = .ok (.istore 4, 2) := by decide +kernel
theorem dX1_isSettled_28 : decode cX1_isSettled 28 = .ok (.iload 4, 2) := by decide +kernel
theorem dX1_isSettled_30 : decode cX1_isSettled 30 = .ok (.bipush 12, 2) := by decide +kernel
theorem dX1_isSettled_32 : decode cX1_isSettled 32 = .ok (.if_icmp .ge 108, 3) := by decide +kernel
theorem dX1_isSettled_35 : decode cX1_isSettled 35 = .ok (.iload_n 2, 1) := by decide +kernel
theorem dX1_isSettled_36 : decode cX1_isSettled 36 = .ok (.ifCond .ne 13, 3) := by decide +kernel
theorem dX1_isSettled_39 : decode cX1_isSettled 39 = .ok (.aload_n 0, 1) := by decide +kernel
theorem dX1_isSettled_40 : decode cX1_isSettled 40 = .ok (.getfield 35, 3) := by decide +kernel
theorem dX1_isSettled_43 : decode cX1_isSettled 43 = .ok (.iload 4, 2) := by decide +kernel
theorem dX1_isSettled_45 : decode cX1_isSettled 45 = .ok (.iaload, 1) := by decide +kernel
theorem dX1_isSettled_46 : decode cX1_isSettled 46 = .ok (.ifCond .eq 7, 3) := by decide +kernel
theorem dX1_isSettled_49 : decode cX1_isSettled 49 = .ok (.iconst 1, 1) := by decide +kernel
theorem dX1_isSettled_50 : decode cX1_isSettled 50 = .ok (.goto 4, 3) := by decide +kernel
theorem dX1_isSettled_53 : decode cX1_isSettled 53 = .ok (.iconst 0, 1) := by decide +kernel
theorem dX1_isSettled_54 : decode cX1_isSettled 54 = .ok (.istore_n 2, 1) := by decide +kernel
theorem dX1_isSettled_55 : decode cX1_isSettled 55 = .ok (.iload_n 1, 1) := by decide +kernel
theorem dX1_isSettled_56 : decode cX1_isSettled 56 = .ok (.istore 5, 2) := by decide +kernel
theorem dX1_isSettled_58 : decode cX1_isSettled 58 = .ok (.iload 5, 2) := by decide +kernel
theorem dX1_isSettled_60 : decode cX1_isSettled 60 = .ok (.iload 4, 2) := by decide +kernel
theorem dX1_isSettled_62 : decode cX1_isSettled 62 = .ok (.if_icmp .ge 72, 3) := by decide +kernel
theorem dX1_isSettled_65 : decode cX1_isSettled 65 = .ok (.aload_n 0, 1) := by decide +kernel
theorem dX1_isSettled_66 : decode cX1_isSettled 66 = .ok (.getfield 35, 3) := by decide +kernel
theorem dX1_isSettled_69 : decode cX1_isSettled 69 = .ok (.iload 4, 2) := by decide +kernel
theorem dX1_isSettled_71 : decode cX1_isSettled 71 = .ok (.iaload, 1) := by decide +kernel
theorem dX1_isSettled_72 : decode cX1_isSettled 72 = .ok (.iconst 2, 1) := by decide +kernel
theorem dX1_isSettled_73 : decode cX1_isSettled 73 = .ok (.if_icmp .ne 18, 3) := by decide +kernel
theorem dX1_isSettled_76 : decode cX1_isSettled 76 = .ok (.aload_n 0, 1) := by decide +kernel
theorem dX1_isSettled_77 : decode cX1_isSettled 77 = .ok (.getfield 35, 3) := by decide +kernel
theorem dX1_isSettled_80 : decode cX1_isSettled 80 = .ok (.iload 5, 2) := by decide +kernel
theorem dX1_isSettled_82 : decode cX1_isSettled 82 = .ok (.iaload, 1) := by decide +kernel
theorem dX1_isSettled_83 : decode cX1_isSettled 83 = .ok (.iconst 2, 1) := by decide +kernel
theorem dX1_isSettled_84 : decode cX1_isSettled 84 = .ok (.if_icmp .ne 7, 3) := by decide +kernel
theorem dX1_isSettled_87 : decode cX1_isSettled 87 = .ok (.iconst 1, 1) := by decide +kernel
theorem dX1_isSettled_88 : decode cX1_isSettled 88 = .ok (.goto 4, 3) := by decide +kernel
theorem dX1_isSettled_91 : decode cX1_isSettled 91 = .ok (.iconst 0, 1) := by decide +kernel
theorem dX1_isSettled_92 : decode cX1_isSettled 92 = .ok (.istore 6, 2) := by decide +kernel
theorem dX1_isSettled_94 : decode cX1_isSettled 94 = .ok (.iload_n 3, 1) := by decide +kernel
theorem dX1_isSettled_95 : decode cX1_isSettled 95 = .ok (.ifCond .eq 31, 3) := by decide +kernel
theorem dX1_isSettled_98 : decode cX1_isSettled 98 = .ok (.iload 6, 2) := by decide +kernel
theorem dX1_isSettled_100 : decode cX1_isSettled 100 = .ok (.ifCond .eq 22, 3) := by decide +kernel
theorem dX1_isSettled_103 : decode cX1_isSettled 103 = .ok (.aload_n 0, 1) := by decide +kernel
theorem dX1_isSettled_104 : decode cX1_isSettled 104 = .ok (.getfield 23, 3) := by decide +kernel
theorem dX1_isSettled_107 : decode cX1_isSettled 107 = .ok (.iconst 4, 1) := by decide +kernel
theorem dX1_isSettled_108 : decode cX1_isSettled 108 = .ok (.iload 4, 2) := by decide +kernel
theorem dX1_isSettled_110 : decode cX1_isSettled 110 = .ok (.iconst 3, 1) := by decide +kernel
theorem dX1_isSettled_111 : decode cX1_isSettled 111 = .ok (.idiv, 1) := by decide +kernel
theorem dX1_isSettled_112 : decode cX1_isSettled 112 = .ok (.imul, 1) := by decide +kernel
theorem dX1_isSettled_113 : decode cX1_isSettled 113 = .ok (.iload 5, 2) := by decide +kernel
theorem dX1_isSettled_115 : decode cX1_isSettled 115 = .ok (.iconst 3, 1) := by decide +kernel
theorem dX1_isSettled_116 : decode cX1_isSettled 116 = .ok (.idiv, 1) := by decide +kernel
theorem dX1_isSettled_117 : decode cX1_isSettled 117 = .ok (.iadd, 1) := by decide +kernel
theorem dX1_isSettled_118 : decode cX1_isSettled 118 = .ok (.baload, 1) := by decide +kernel
theorem dX1_isSettled_119 : decode cX1_isSettled 119 = .ok (.ifCond .eq 7, 3) := by decide +kernel
theorem dX1_isSettled_122 : decode cX1_isSettled 122 = .ok (.iconst 1, 1) := by decide +kernel
theorem dX1_isSettled_123 : decode cX1_isSettled 123 = .ok (.goto 4, 3) := by decide +kernel
theorem dX1_isSettled_126 : decode cX1_isSettled 126 = .ok (.iconst 0, 1) := by decide +kernel
theorem dX1_isSettled_127 : decode cX1_isSettled 127 = .ok (.istore_n 3, 1) := by decide +kernel
theorem dX1_isSettled_128 : decode cX1_isSettled 128 = .ok (.iinc 5 3, 3) := by decide +kernel
theorem dX1_isSettled_131 : decode cX1_isSettled 131 = .ok (.goto (-73), 3) := by decide +kernel
theorem dX1_isSettled_134 : decode cX1_isSettled 134 = .ok (.iinc 4 3, 3) := by decide +kernel
theorem dX1_isSettled_137 : decode cX1_isSettled 137 = .ok (.goto (-109), 3) := by decide +kernel
theorem dX1_isSettled_140 : decode cX1_isSettled 140 = .ok (.iload_n 3, 1) := by decide +kernel
theorem dX1_isSettled_141 : decode cX1_isSettled 141 = .ok (.ifCond .eq 19, 3) := by decide +kernel
theorem dX1_isSettled_144 : decode cX1_isSettled 144 = .ok (.iload_n 2, 1) := by decide +kernel
theorem dX1_isSettled_145 : decode cX1_isSettled 145 = .ok (.ifCond .eq 11, 3) := by decide +kernel
theorem dX1_isSettled_148 : decode cX1_isSettled 148 = .ok (.aload_n 0, 1) := by decide +kernel
theorem dX1_isSettled_149 : decode cX1_isSettled 149 = .ok (.iload_n 1, 1) := by decide +kernel
theorem dX1_isSettled_150 : decode cX1_isSettled 150 = .ok (.invokevirtual 118, 3) := by decide +kernel
theorem dX1_isSettled_153 : decode cX1_isSettled 153 = .ok (.ifCond .eq 7, 3) := by decide +kernel
theorem dX1_isSettled_156 : decode cX1_isSettled 156 = .ok (.iconst 1, 1) := by decide +kernel
theorem dX1_isSettled_157 : decode cX1_isSettled 157 = .ok (.goto 4, 3) := by decide +kernel
theorem dX1_isSettled_160 : decode cX1_isSettled 160 = .ok (.iconst 0, 1) := by decide +kernel
theorem dX1_isSettled_161 : decode cX1_isSettled 161 = .ok (.ireturn, 1) := by decide +kernel
theorem dJ9_max_7cf53_0 : decode cJ9_max_7cf53 0 = .ok (.iload_n 0, 1) := by decide +kernel
theorem dJ9_max_7cf53_1 : decode cJ9_max_7cf53 1 = .ok (.iload_n 1, 1) := by decide +kernel
theorem dJ9_max_7cf53_2 : decode cJ9_max_7cf53 2 = .ok (.if_icmp .lt 7, 3) := by decide +kernel
theorem dJ9_max_7cf53_5 : decode cJ9_max_7cf53 5 = .ok (.iload_n 0, 1) := by decide +kernel
theorem dJ9_max_7cf53_6 : decode cJ9_max_7cf53 6 = .ok (.goto 4, 3) := by decide +kernel
theorem dJ9_max_7cf53_9 : decode cJ9_max_7cf53 9 = .ok (.iload_n 1, 1) := by decide +kernel
theorem dJ9_max_7cf53_10 : decode cJ9_max_7cf53 10 = .ok (.ireturn, 1) := by decide +kernel
set_option maxRecDepth 20000 in
theorem ggL_setPriority_X0_setPriority : GoodIn wsL_setPriority wsX0_setPriority := goodIn_ca (goodIn_r _ [6, 7, 8, 9, 10, 11, 5, 12, 13, 14, 15, 16, 17, 18, 19, 20, 21, 22, 23, 24, 25, 26, 27, 28, 29, 30, 31, 32, 33, 34, 35, 36, 37, 38, 39, 40, 41, 42, 43, 44, 45, 46, 47, 48, 49, 50, 51, 52, 53, 54, 55, 56, 57, 58, 59, 60, 61, 62, 63, 64, 65, 66, 67, 68, 69, 70, 71, 72, 73, 74, 75, 76, 77, 78, 79, 80, 81, 82, 83, 84, 85, 86, 87, 88, 89, 90, 91, 92, 93, 94, 95, 96] (by decide +kernel) (by decide +kernel)) (goodIn_sub (fun _ h => List.mem_cons_of_mem _ (List.mem_append_right _ h)) (by decide +kernel))
set_option maxRecDepth 20000 in
theorem gL_setPriority_X0_setPriority : GoodIn wsL_setPriority (wsV RL 7 RX0 yX0_setPriority wsX0_setPriority) := goodIn_app (goodIn_of _ (by decide +kernel)) ggL_setPriority_X0_setPriority
