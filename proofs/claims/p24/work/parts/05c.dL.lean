theorem dL_areAlike_0 : decode cL_areAlike 0 = .ok (.aload_n 0, 1) := by decide +kernel
theorem dL_areAlike_1 : decode cL_areAlike 1 = .ok (.invokevirtual 89, 3) := by decide +kernel
theorem dL_areAlike_4 : decode cL_areAlike 4 = .ok (.aload_n 1, 1) := by decide +kernel
theorem dL_areAlike_5 : decode cL_areAlike 5 = .ok (.invokevirtual 89, 3) := by decide +kernel
theorem dL_areAlike_8 : decode cL_areAlike 8 = .ok (.if_icmp .ne 7, 3) := by decide +kernel
theorem dL_areAlike_11 : decode cL_areAlike 11 = .ok (.iconst 1, 1) := by decide +kernel
theorem dL_areAlike_12 : decode cL_areAlike 12 = .ok (.goto 4, 3) := by decide +kernel
theorem dL_areAlike_15 : decode cL_areAlike 15 = .ok (.iconst 0, 1) := by decide +kernel
theorem dL_areAlike_16 : decode cL_areAlike 16 = .ok (.istore_n 2, 1) := by decide +kernel
theorem dL_areAlike_17 : decode cL_areAlike 17 = .ok (.iconst 0, 1) := by decide +kernel
theorem dL_areAlike_18 : decode cL_areAlike 18 = .ok (.istore_n 3, 1) := by decide +kernel
theorem dL_areAlike_19 : decode cL_areAlike 19 = .ok (.iload_n 3, 1) := by decide +kernel
theorem dL_areAlike_20 : decode cL_areAlike 20 = .ok (.iconst 3, 1) := by decide +kernel
theorem dL_areAlike_21 : decode cL_areAlike 21 = .ok (.if_icmp .ge 151, 3) := by decide +kernel
theorem dL_areAlike_24 : decode cL_areAlike 24 = .ok (.iload_n 2, 1) := by decide +kernel
theorem dL_areAlike_25 : decode cL_areAlike 25 = .ok (.ifCond .eq 46, 3) := by decide +kernel
theorem dL_areAlike_28 : decode cL_areAlike 28 = .ok (.aload_n 0, 1) := by decide +kernel
theorem dL_areAlike_29 : decode cL_areAlike 29 = .ok (.iload_n 3, 1) := by decide +kernel
theorem dL_areAlike_30 : decode cL_areAlike 30 = .ok (.invokevirtual 93, 3) := by decide +kernel
theorem dL_areAlike_33 : decode cL_areAlike 33 = .ok (.aload_n 1, 1) := by decide +kernel
theorem dL_areAlike_34 : decode cL_areAlike 34 = .ok (.iload_n 3, 1) := by decide +kernel
theorem dL_areAlike_35 : decode cL_areAlike 35 = .ok (.invokevirtual 93, 3) := by decide +kernel
theorem dL_areAlike_38 : decode cL_areAlike 38 = .ok (.if_icmp .ne 33, 3) := by decide +kernel
theorem dL_areAlike_41 : decode cL_areAlike 41 = .ok (.aload_n 0, 1) := by decide +kernel
theorem dL_areAlike_42 : decode cL_areAlike 42 = .ok (.iload_n 3, 1) := by decide +kernel
theorem dL_areAlike_43 : decode cL_areAlike 43 = .ok (.invokevirtual 96, 3) := by decide +kernel
theorem dL_areAlike_46 : decode cL_areAlike 46 = .ok (.aload_n 1, 1) := by decide +kernel
theorem dL_areAlike_47 : decode cL_areAlike 47 = .ok (.iload_n 3, 1) := by decide +kernel
theorem dL_areAlike_48 : decode cL_areAlike 48 = .ok (.invokevirtual 96, 3) := by decide +kernel
theorem dL_areAlike_51 : decode cL_areAlike 51 = .ok (.if_icmp .ne 20, 3) := by decide +kernel
theorem dL_areAlike_54 : decode cL_areAlike 54 = .ok (.aload_n 0, 1) := by decide +kernel
theorem dL_areAlike_55 : decode cL_areAlike 55 = .ok (.iload_n 3, 1) := by decide +kernel
theorem dL_areAlike_56 : decode cL_areAlike 56 = .ok (.invokevirtual 99, 3) := by decide +kernel
theorem dL_areAlike_59 : decode cL_areAlike 59 = .ok (.aload_n 1, 1) := by decide +kernel
theorem dL_areAlike_60 : decode cL_areAlike 60 = .ok (.iload_n 3, 1) := by decide +kernel
theorem dL_areAlike_61 : decode cL_areAlike 61 = .ok (.invokevirtual 99, 3) := by decide +kernel
theorem dL_areAlike_64 : decode cL_areAlike 64 = .ok (.if_icmp .ne 7, 3) := by decide +kernel
theorem dL_areAlike_67 : decode cL_areAlike 67 = .ok (.iconst 1, 1) := by decide +kernel
theorem dL_areAlike_68 : decode cL_areAlike 68 = .ok (.goto 4, 3) := by decide +kernel
theorem dL_areAlike_71 : decode cL_areAlike 71 = .ok (.iconst 0, 1) := by decide +kernel
theorem dL_areAlike_72 : decode cL_areAlike 72 = .ok (.istore_n 2, 1) := by decide +kernel
theorem dL_areAlike_73 : decode cL_areAlike 73 = .ok (.iconst 0, 1) := by decide +kernel
theorem dL_areAlike_74 : decode cL_areAlike 74 = .ok (.istore 4, 2) := by decide +kernel
theorem dL_areAlike_76 : decode cL_areAlike 76 = .ok (.iload 4, 2) := by decide +kernel
theorem dL_areAlike_78 : decode cL_areAlike 78 = .ok (.iconst 4, 1) := by decide +kernel
theorem dL_areAlike_79 : decode cL_areAlike 79 = .ok (.if_icmp .ge 87, 3) := by decide +kernel
theorem dL_areAlike_82 : decode cL_areAlike 82 = .ok (.iload_n 2, 1) := by decide +kernel
theorem dL_areAlike_83 : decode cL_areAlike 83 = .ok (.ifCond .eq 75, 3) := by decide +kernel
theorem dL_areAlike_86 : decode cL_areAlike 86 = .ok (.aload_n 0, 1) := by decide +kernel
theorem dL_areAlike_87 : decode cL_areAlike 87 = .ok (.iload 4, 2) := by decide +kernel
theorem dL_areAlike_89 : decode cL_areAlike 89 = .ok (.iload_n 3, 1) := by decide +kernel
theorem dL_areAlike_90 : decode cL_areAlike 90 = .ok (.invokevirtual 102, 3) := by decide +kernel
theorem dL_areAlike_93 : decode cL_areAlike 93 = .ok (.aload_n 1, 1) := by decide +kernel
theorem dL_areAlike_94 : decode cL_areAlike 94 = .ok (.iload 4, 2) := by decide +kernel
theorem dL_areAlike_96 : decode cL_areAlike 96 = .ok (.iload_n 3, 1) := by decide +kernel
theorem dL_areAlike_97 : decode cL_areAlike 97 = .ok (.invokevirtual 102, 3) := by decide +kernel
theorem dL_areAlike_100 : decode cL_areAlike 100 = .ok (.if_icmp .ne 58, 3) := by decide +kernel
theorem dL_areAlike_103 : decode cL_areAlike 103 = .ok (.aload_n 0, 1) := by decide +kernel
theorem dL_areAlike_104 : decode cL_areAlike 104 = .ok (.iload 4, 2) := by decide +kernel
theorem dL_areAlike_106 : decode cL_areAlike 106 = .ok (.iload_n 3, 1) := by decide +kernel
theorem dL_areAlike_107 : decode cL_areAlike 107 = .ok (.invokestatic 105, 3) := by decide +kernel
theorem dL_areAlike_110 : decode cL_areAlike 110 = .ok (.aload_n 1, 1) := by decide +kernel
theorem dL_areAlike_111 : decode cL_areAlike 111 = .ok (.iload 4, 2) := by decide +kernel
theorem dL_areAlike_113 : decode cL_areAlike 113 = .ok (.iload_n 3, 1) := by decide +kernel
theorem dL_areAlike_114 : decode cL_areAlike 114 = .ok (.invokestatic 105, 3) := by decide +kernel
theorem dL_areAlike_117 : decode cL_areAlike 117 = .ok (.if_icmp .ne 41, 3) := by decide +kernel
theorem dL_areAlike_120 : decode cL_areAlike 120 = .ok (.aload_n 0, 1) := by decide +kernel
theorem dL_areAlike_121 : decode cL_areAlike 121 = .ok (.iload 4, 2) := by decide +kernel
theorem dL_areAlike_123 : decode cL_areAlike 123 = .ok (.iload_n 3, 1) := by decide +kernel
theorem dL_areAlike_124 : decode cL_areAlike 124 = .ok (.invokevirtual 107, 3) := by decide +kernel
theorem dL_areAlike_127 : decode cL_areAlike 127 = .ok (.aload_n 1, 1) := by decide +kernel
theorem dL_areAlike_128 : decode cL_areAlike 128 = .ok (.iload 4, 2) := by decide +kernel
theorem dL_areAlike_130 : decode cL_areAlike 130 = .ok (.iload_n 3, 1) := by decide +kernel
theorem dL_areAlike_131 : decode cL_areAlike 131 = .ok (.invokevirtual 107, 3) := by decide +kernel
theorem dL_areAlike_134 : decode cL_areAlike 134 = .ok (.if_icmp .ne 24, 3) := by decide +kernel
theorem dL_areAlike_137 : decode cL_areAlike 137 = .ok (.aload_n 0, 1) := by decide +kernel
theorem dL_areAlike_138 : decode cL_areAlike 138 = .ok (.iload 4, 2) := by decide +kernel
theorem dL_areAlike_140 : decode cL_areAlike 140 = .ok (.iload_n 3, 1) := by decide +kernel
theorem dL_areAlike_141 : decode cL_areAlike 141 = .ok (.invokevirtual 110, 3) := by decide +kernel
theorem dL_areAlike_144 : decode cL_areAlike 144 = .ok (.aload_n 1, 1) := by decide +kernel
theorem dL_areAlike_145 : decode cL_areAlike 145 = .ok (.iload 4, 2) := by decide +kernel
theorem dL_areAlike_147 : decode cL_areAlike 147 = .ok (.iload_n 3, 1) := by decide +kernel
theorem dL_areAlike_148 : decode cL_areAlike 148 = .ok (.invokevirtual 110, 3) := by decide +kernel
theorem dL_areAlike_151 : decode cL_areAlike 151 = .ok (.if_icmp .ne 7, 3) := by decide +kernel
theorem dL_areAlike_154 : decode cL_areAlike 154 = .ok (.iconst 1, 1) := by decide +kernel
theorem dL_areAlike_155 : decode cL_areAlike 155 = .ok (.goto 4, 3) := by decide +kernel
theorem dL_areAlike_158 : decode cL_areAlike 158 = .ok (.iconst 0, 1) := by decide +kernel
theorem dL_areAlike_159 : decode cL_areAlike 159 = .ok (.istore_n 2, 1) := by decide +kernel
theorem dL_areAlike_160 : decode cL_areAlike 160 = .ok (.iinc 4 1, 3) := by decide +kernel
theorem dL_areAlike_163 : decode cL_areAlike 163 = .ok (.goto (-87), 3) := by decide +kernel
theorem dL_areAlike_166 : decode cL_areAlike 166 = .ok (.iinc 3 1, 3) := by decide +kernel
theorem dL_areAlike_169 : decode cL_areAlike 169 = .ok (.goto (-150), 3) := by decide +kernel
theorem dL_areAlike_172 : decode cL_areAlike 172 = .ok (.iload_n 2, 1) := by decide +kernel
theorem dL_areAlike_173 : decode cL_areAlike 173 = .ok (.ireturn, 1) := by decide +kernel
set_option maxRecDepth 20000 in
theorem ggL_isGroupSo_X0_state : GoodIn wsL_isGroupSo wsX0_state := goodIn_ca (goodIn_r _ [5, 6, 7, 8, 4, 9, 10, 11, 12, 13, 14, 15, 16, 17, 82, 83, 84, 85, 86, 87, 88, 89, 90, 91, 92, 93, 94, 95, 96, 97, 98, 99] (by decide +kernel) (by decide +kernel)) (goodIn_sub (fun _ h => List.mem_cons_of_mem _ (List.mem_append_left _ (List.mem_append_right _ h))) (by decide +kernel))
set_option maxRecDepth 20000 in
theorem gL_isGroupSo_X0_state : GoodIn wsL_isGroupSo (wsV RL 102 RX0 yX0_state wsX0_state) := goodIn_app (goodIn_of _ (by decide +kernel)) ggL_isGroupSo_X0_state
set_option maxRecDepth 20000 in
theorem ggL_isGroupSo_L_timer : GoodIn wsL_isGroupSo wsL_timer := goodIn_ca (goodIn_ca (goodIn_r _ [21, 22, 23, 24, 25, 26, 27, 4, 28, 29, 30, 6, 31, 7, 8, 9, 10, 11, 12, 13, 14, 15, 16, 17, 82, 83, 84, 85, 86, 87, 88, 89, 90, 91, 92, 93, 94, 95, 96, 97, 98, 99] (by decide +kernel) (by decide +kernel)) (goodIn_sub (fun _ h => List.mem_cons_of_mem _ (List.mem_append_right _ h)) (by decide +kernel))) (goodIn_sub (fun _ h => List.mem_cons_of_mem _ (List.mem_append_left _ (List.mem_append_right _ h))) (by decide +kernel))
set_option maxRecDepth 20000 in
theorem gL_isGroupSo_L_timer : GoodIn wsL_isGroupSo (va_wsS RL 105 yL_timer wsL_timer) := goodIn_app (goodIn_of _ (by decide +kernel)) ggL_isGroupSo_L_timer
set_option maxRecDepth 20000 in
theorem ggL_isGroupSo_X0_priority : GoodIn wsL_isGroupSo wsX0_priority := goodIn_ca (goodIn_r _ [35, 6, 7, 8, 4, 9, 10, 11, 12, 13, 14, 15, 16, 17, 36, 37, 38, 39, 40, 41, 42, 43, 44, 45, 46, 47, 48, 49, 82, 83, 84, 85, 86, 87, 88, 89, 90, 91, 92, 93, 94, 95, 96, 97, 98, 99] (by decide +kernel) (by decide +kernel)) (goodIn_sub (fun _ h => List.mem_cons_of_mem _ (List.mem_append_left _ (List.mem_append_right _ h))) (by decide +kernel))
set_option maxRecDepth 20000 in
theorem gL_isGroupSo_X0_priority : GoodIn wsL_isGroupSo (wsV RL 113 RX0 yX0_priority wsX0_priority) := goodIn_app (goodIn_of _ (by decide +kernel)) ggL_isGroupSo_X0_priority
set_option maxRecDepth 20000 in
theorem ggL_isGroupSo_X0_known : GoodIn wsL_isGroupSo wsX0_known := goodIn_ca (goodIn_r _ [53, 54, 7, 8, 4, 9, 10, 11, 12, 13, 14, 15, 16, 17, 82, 83, 84, 85, 86, 87, 88, 89, 90, 91, 92, 93, 94, 95, 96, 97, 98, 99] (by decide +kernel) (by decide +kernel)) (goodIn_sub (fun _ h => List.mem_cons_of_mem _ (List.mem_append_left _ (List.mem_append_right _ h))) (by decide +kernel))
set_option maxRecDepth 20000 in
theorem gL_isGroupSo_X0_known : GoodIn wsL_isGroupSo (wsV RL 107 RX0 yX0_known wsX0_known) := goodIn_app (goodIn_of _ (by decide +kernel)) ggL_isGroupSo_X0_known
set_option maxRecDepth 20000 in
theorem ggL_isGroupSo_X0_changes : GoodIn wsL_isGroupSo wsX0_changes := goodIn_ca (goodIn_r _ [58, 59, 7, 8, 4, 9, 10, 11, 12, 13, 14, 15, 16, 17, 82, 83, 84, 85, 86, 87, 88, 89, 90, 91, 92, 93, 94, 95, 96, 97, 98, 99] (by decide +kernel) (by decide +kernel)) (goodIn_sub (fun _ h => List.mem_cons_of_mem _ (List.mem_append_left _ (List.mem_append_right _ h))) (by decide +kernel))
set_option maxRecDepth 20000 in
theorem gL_isGroupSo_X0_changes : GoodIn wsL_isGroupSo (wsV RL 110 RX0 yX0_changes wsX0_changes) := goodIn_app (goodIn_of _ (by decide +kernel)) ggL_isGroupSo_X0_changes
set_option maxRecDepth 20000 in
theorem ggL_isGroupSo_X0_masters : GoodIn wsL_isGroupSo wsX0_masters := goodIn_ca (goodIn_r _ [63, 12, 13, 4, 14, 10, 11, 64, 65, 66, 67, 6, 15, 16, 17, 82, 83, 84, 85, 86, 87, 88, 89, 90, 91, 92, 93, 94, 95, 96, 97, 98, 99] (by decide +kernel) (by decide +kernel)) (goodIn_sub (fun _ h => List.mem_cons_of_mem _ (List.mem_append_left _ (List.mem_append_right _ h))) (by decide +kernel))
set_option maxRecDepth 20000 in
theorem gL_isGroupSo_X0_masters : GoodIn wsL_isGroupSo (wsV RL 93 RX0 yX0_masters wsX0_masters) := goodIn_app (goodIn_of _ (by decide +kernel)) ggL_isGroupSo_X0_masters
set_option maxRecDepth 20000 in
theorem ggL_isGroupSo_X0_isSettled : GoodIn wsL_isGroupSo wsX0_isSettled := goodIn_ca (goodIn_r _ [71, 12, 13, 4, 14, 10, 11, 64, 65, 66, 67, 6, 15, 16, 17, 72, 73, 74, 75, 76, 82, 83, 84, 85, 86, 87, 88, 89, 90, 91, 92, 93, 94, 95, 96, 97, 98, 99] (by decide +kernel) (by decide +kernel)) (goodIn_sub (fun _ h => List.mem_cons_of_mem _ (List.mem_append_left _ (List.mem_append_right _ h))) (by decide +kernel))
set_option maxRecDepth 20000 in
theorem gL_isGroupSo_X0_isSettled : GoodIn wsL_isGroupSo (wsV RL 116 RX0 yX0_isSettled wsX0_isSettled) := goodIn_app (goodIn_of _ (by decide +kernel)) ggL_isGroupSo_X0_isSettled
set_option maxRecDepth 20000 in
theorem ggL_isGroupSo_X0_sent : GoodIn wsL_isGroupSo wsX0_sent := goodIn_ca (goodIn_r _ [80, 81, 12, 13, 4, 14, 10, 11, 82, 83, 84, 85, 86, 87, 88, 89, 90, 91, 92, 93, 94, 95, 96, 97, 98, 99] (by decide +kernel) (by decide +kernel)) (goodIn_sub (fun _ h => List.mem_cons_of_mem _ (List.mem_append_left _ (List.mem_append_right _ h))) (by decide +kernel))
set_option maxRecDepth 20000 in
theorem gL_isGroupSo_X0_sent : GoodIn wsL_isGroupSo (wsV RL 99 RX0 yX0_sent wsX0_sent) := goodIn_app (goodIn_of _ (by decide +kernel)) ggL_isGroupSo_X0_sent
theorem dL_isGroupSo_0 : decode cL_isGroupSo 0 = .ok (.iconst 0, 1) := by decide +kernel
theorem dL_isGroupSo_1 : decode cL_isGroupSo 1 = .ok (.istore_n 2, 1) := by decide +kernel
theorem dL_isGroupSo_2 : decode cL_isGroupSo 2 = .ok (.iconst 0, 1) := by decide +kernel
theorem dL_isGroupSo_3 : decode cL_isGroupSo 3 = .ok (.istore_n 3, 1) := by decide +kernel
theorem dL_isGroupSo_4 : decode cL_isGroupSo 4 = .ok (.iconst 0, 1) := by decide +kernel
theorem dL_isGroupSo_5 : decode cL_isGroupSo 5 = .ok (.istore 4, 2) := by decide +kernel
theorem dL_isGroupSo_7 : decode cL_isGroupSo 7 = .ok (.iconst 0, 1) := by decide +kernel
theorem dL_isGroupSo_8 : decode cL_isGroupSo 8 = .ok (.istore 5, 2) := by decide +kernel
theorem dL_isGroupSo_10 : decode cL_isGroupSo 10 = .ok (.iload 5, 2) := by decide +kernel
theorem dL_isGroupSo_12 : decode cL_isGroupSo 12 = .ok (.iconst 4, 1) := by decide +kernel
theorem dL_isGroupSo_13 : decode cL_isGroupSo 13 = .ok (.if_icmp .ge 157, 3) := by decide +kernel
theorem dL_isGroupSo_16 : decode cL_isGroupSo 16 = .ok (.aload_n 0, 1) := by decide +kernel
theorem dL_isGroupSo_17 : decode cL_isGroupSo 17 = .ok (.iload 5, 2) := by decide +kernel
theorem dL_isGroupSo_19 : decode cL_isGroupSo 19 = .ok (.iload_n 1, 1) := by decide +kernel
theorem dL_isGroupSo_20 : decode cL_isGroupSo 20 = .ok (.invokevirtual 102, 3) := by decide +kernel
theorem dL_isGroupSo_23 : decode cL_isGroupSo 23 = .ok (.istore 6, 2) := by decide +kernel
theorem dL_isGroupSo_25 : decode cL_isGroupSo 25 = .ok (.aload_n 0, 1) := by decide +kernel
theorem dL_isGroupSo_26 : decode cL_isGroupSo 26 = .ok (.iload 5, 2) := by decide +kernel
theorem dL_isGroupSo_28 : decode cL_isGroupSo 28 = .ok (.iload_n 1, 1) := by decide +kernel
theorem dL_isGroupSo_29 : decode cL_isGroupSo 29 = .ok (.invokestatic 105, 3) := by decide +kernel
theorem dL_isGroupSo_32 : decode cL_isGroupSo 32 = .ok (.istore 7, 2) := by decide +kernel
theorem dL_isGroupSo_34 : decode cL_isGroupSo 34 = .ok (.aload_n 0, 1) := by decide +kernel
theorem dL_isGroupSo_35 : decode cL_isGroupSo 35 = .ok (.iload 5, 2) := by decide +kernel
theorem dL_isGroupSo_37 : decode cL_isGroupSo 37 = .ok (.iload_n 1, 1) := by decide +kernel
theorem dL_isGroupSo_38 : decode cL_isGroupSo 38 = .ok (.invokevirtual 113, 3) := by decide +kernel
theorem dL_isGroupSo_41 : decode cL_isGroupSo 41 = .ok (.istore 8, 2) := by decide +kernel
theorem dL_isGroupSo_43 : decode cL_isGroupSo 43 = .ok (.iload 6, 2) := by decide +kernel
theorem dL_isGroupSo_45 : decode cL_isGroupSo 45 = .ok (.ifCond .lt 67, 3) := by decide +kernel
theorem dL_isGroupSo_48 : decode cL_isGroupSo 48 = .ok (.iload 6, 2) := by decide +kernel
theorem dL_isGroupSo_50 : decode cL_isGroupSo 50 = .ok (.iconst 3, 1) := by decide +kernel
theorem dL_isGroupSo_51 : decode cL_isGroupSo 51 = .ok (.if_icmp .ge 61, 3) := by decide +kernel
theorem dL_isGroupSo_54 : decode cL_isGroupSo 54 = .ok (.iload 6, 2) := by decide +kernel
theorem dL_isGroupSo_56 : decode cL_isGroupSo 56 = .ok (.ifCond .ne 17, 3) := by decide +kernel
theorem dL_isGroupSo_59 : decode cL_isGroupSo 59 = .ok (.iload 7, 2) := by decide +kernel
theorem dL_isGroupSo_61 : decode cL_isGroupSo 61 = .ok (.iconst (-1), 1) := by decide +kernel
theorem dL_isGroupSo_62 : decode cL_isGroupSo 62 = .ok (.if_icmp .ne 50, 3) := by decide +kernel
theorem dL_isGroupSo_65 : decode cL_isGroupSo 65 = .ok (.iload 8, 2) := by decide +kernel
theorem dL_isGroupSo_67 : decode cL_isGroupSo 67 = .ok (.ifCond .ne 45, 3) := by decide +kernel
theorem dL_isGroupSo_70 : decode cL_isGroupSo 70 = .ok (.goto 28, 3) := by decide +kernel
theorem dL_isGroupSo_73 : decode cL_isGroupSo 73 = .ok (.iload 7, 2) := by decide +kernel
theorem dL_isGroupSo_75 : decode cL_isGroupSo 75 = .ok (.ifCond .le 37, 3) := by decide +kernel
theorem dL_isGroupSo_78 : decode cL_isGroupSo 78 = .ok (.iload 7, 2) := by decide +kernel
theorem dL_isGroupSo_80 : decode cL_isGroupSo 80 = .ok (.bipush 40, 2) := by decide +kernel
theorem dL_isGroupSo_82 : decode cL_isGroupSo 82 = .ok (.if_icmp .gt 30, 3) := by decide +kernel
theorem dL_isGroupSo_85 : decode cL_isGroupSo 85 = .ok (.iload 8, 2) := by decide +kernel
theorem dL_isGroupSo_87 : decode cL_isGroupSo 87 = .ok (.ifCond .le 25, 3) := by decide +kernel
theorem dL_isGroupSo_90 : decode cL_isGroupSo 90 = .ok (.iload 8, 2) := by decide +kernel
theorem dL_isGroupSo_92 : decode cL_isGroupSo 92 = .ok (.sipush 255, 3) := by decide +kernel
theorem dL_isGroupSo_95 : decode cL_isGroupSo 95 = .ok (.if_icmp .ge 17, 3) := by decide +kernel
theorem dL_isGroupSo_98 : decode cL_isGroupSo 98 = .ok (.aload_n 0, 1) := by decide +kernel
theorem dL_isGroupSo_99 : decode cL_isGroupSo 99 = .ok (.iload 5, 2) := by decide +kernel
theorem dL_isGroupSo_101 : decode cL_isGroupSo 101 = .ok (.iload_n 1, 1) := by decide +kernel
theorem dL_isGroupSo_102 : decode cL_isGroupSo 102 = .ok (.invokevirtual 107, 3) := by decide +kernel
theorem dL_isGroupSo_105 : decode cL_isGroupSo 105 = .ok (.ifCond .lt 7, 3) := by decide +kernel
theorem dL_isGroupSo_108 : decode cL_isGroupSo 108 = .ok (.iconst 1, 1) := by decide +kernel
theorem dL_isGroupSo_109 : decode cL_isGroupSo 109 = .ok (.goto 4, 3) := by decide +kernel
theorem dL_isGroupSo_112 : decode cL_isGroupSo 112 = .ok (.iconst 0, 1) := by decide +kernel
theorem dL_isGroupSo_113 : decode cL_isGroupSo 113 = .ok (.istore 9, 2) := by decide +kernel
theorem dL_isGroupSo_115 : decode cL_isGroupSo 115 = .ok (.iload 9, 2) := by decide +kernel
theorem dL_isGroupSo_117 : decode cL_isGroupSo 117 = .ok (.ifCond .ne 5, 3) := by decide +kernel
theorem dL_isGroupSo_120 : decode cL_isGroupSo 120 = .ok (.iconst 0, 1) := by decide +kernel
theorem dL_isGroupSo_121 : decode cL_isGroupSo 121 = .ok (.ireturn, 1) := by decide +kernel
theorem dL_isGroupSo_122 : decode cL_isGroupSo 122 = .ok (.iload_n 2, 1) := by decide +kernel
theorem dL_isGroupSo_123 : decode cL_isGroupSo 123 = .ok (.iload 6, 2) := by decide +kernel
theorem dL_isGroupSo_125 : decode cL_isGroupSo 125 = .ok (.iconst 2, 1) := by decide +kernel
theorem dL_isGroupSo_126 : decode cL_isGroupSo 126 = .ok (.if_icmp .ne 10, 3) := by decide +kernel
theorem dL_isGroupSo_129 : decode cL_isGroupSo 129 = .ok (.iconst 1, 1) := by decide +kernel
theorem dL_isGroupSo_130 : decode cL_isGroupSo 130 = .ok (.iload 5, 2) := by decide +kernel
theorem dL_isGroupSo_132 : decode cL_isGroupSo 132 = .ok (.ishl, 1) := by decide +kernel
theorem dL_isGroupSo_133 : decode cL_isGroupSo 133 = .ok (.goto 4, 3) := by decide +kernel
theorem dL_isGroupSo_136 : decode cL_isGroupSo 136 = .ok (.iconst 0, 1) := by decide +kernel
theorem dL_isGroupSo_137 : decode cL_isGroupSo 137 = .ok (.ior, 1) := by decide +kernel
theorem dL_isGroupSo_138 : decode cL_isGroupSo 138 = .ok (.istore_n 2, 1) := by decide +kernel
theorem dL_isGroupSo_139 : decode cL_isGroupSo 139 = .ok (.iload_n 3, 1) := by decide +kernel
theorem dL_isGroupSo_140 : decode cL_isGroupSo 140 = .ok (.iload 6, 2) := by decide +kernel
theorem dL_isGroupSo_142 : decode cL_isGroupSo 142 = .ok (.ifCond .le 7, 3) := by decide +kernel
theorem dL_isGroupSo_145 : decode cL_isGroupSo 145 = .ok (.iconst 1, 1) := by decide +kernel
theorem dL_isGroupSo_146 : decode cL_isGroupSo 146 = .ok (.goto 4, 3) := by decide +kernel
theorem dL_isGroupSo_149 : decode cL_isGroupSo 149 = .ok (.iconst 0, 1) := by decide +kernel
theorem dL_isGroupSo_150 : decode cL_isGroupSo 150 = .ok (.iadd, 1) := by decide +kernel
theorem dL_isGroupSo_151 : decode cL_isGroupSo 151 = .ok (.istore_n 3, 1) := by decide +kernel
theorem dL_isGroupSo_152 : decode cL_isGroupSo 152 = .ok (.iload 4, 2) := by decide +kernel
theorem dL_isGroupSo_154 : decode cL_isGroupSo 154 = .ok (.aload_n 0, 1) := by decide +kernel
theorem dL_isGroupSo_155 : decode cL_isGroupSo 155 = .ok (.iload 5, 2) := by decide +kernel
theorem dL_isGroupSo_157 : decode cL_isGroupSo 157 = .ok (.iload_n 1, 1) := by decide +kernel
theorem dL_isGroupSo_158 : decode cL_isGroupSo 158 = .ok (.invokevirtual 110, 3) := by decide +kernel
theorem dL_isGroupSo_161 : decode cL_isGroupSo 161 = .ok (.iadd, 1) := by decide +kernel
theorem dL_isGroupSo_162 : decode cL_isGroupSo 162 = .ok (.istore 4, 2) := by decide +kernel
theorem dL_isGroupSo_164 : decode cL_isGroupSo 164 = .ok (.iinc 5 1, 3) := by decide +kernel
theorem dL_isGroupSo_167 : decode cL_isGroupSo 167 = .ok (.goto (-157), 3) := by decide +kernel
theorem dL_isGroupSo_170 : decode cL_isGroupSo 170 = .ok (.iload_n 2, 1) := by decide +kernel
theorem dL_isGroupSo_171 : decode cL_isGroupSo 171 = .ok (.ifCond .eq 15, 3) := by decide +kernel
theorem dL_isGroupSo_174 : decode cL_isGroupSo 174 = .ok (.iload_n 2, 1) := by decide +kernel
theorem dL_isGroupSo_175 : decode cL_isGroupSo 175 = .ok (.iload_n 2, 1) := by decide +kernel
theorem dL_isGroupSo_176 : decode cL_isGroupSo 176 = .ok (.iconst 1, 1) := by decide +kernel
theorem dL_isGroupSo_177 : decode cL_isGroupSo 177 = .ok (.isub, 1) := by decide +kernel
theorem dL_isGroupSo_178 : decode cL_isGroupSo 178 = .ok (.iand, 1) := by decide +kernel
theorem dL_isGroupSo_179 : decode cL_isGroupSo 179 = .ok (.ifCond .ne 7, 3) := by decide +kernel
theorem dL_isGroupSo_182 : decode cL_isGroupSo 182 = .ok (.iconst 1, 1) := by decide +kernel
theorem dL_isGroupSo_183 : decode cL_isGroupSo 183 = .ok (.goto 4, 3) := by decide +kernel
theorem dL_isGroupSo_186 : decode cL_isGroupSo 186 = .ok (.iconst 0, 1) := by decide +kernel
theorem dL_isGroupSo_187 : decode cL_isGroupSo 187 = .ok (.istore 5, 2) := by decide +kernel
theorem dL_isGroupSo_189 : decode cL_isGroupSo 189 = .ok (.aload_n 0, 1) := by decide +kernel
theorem dL_isGroupSo_190 : decode cL_isGroupSo 190 = .ok (.iload_n 1, 1) := by decide +kernel
theorem dL_isGroupSo_191 : decode cL_isGroupSo 191 = .ok (.invokevirtual 93, 3) := by decide +kernel
theorem dL_isGroupSo_194 : decode cL_isGroupSo 194 = .ok (.iload_n 2, 1) := by decide +kernel
theorem dL_isGroupSo_195 : decode cL_isGroupSo 195 = .ok (.if_icmp .ne 51, 3) := by decide +kernel
theorem dL_isGroupSo_198 : decode cL_isGroupSo 198 = .ok (.iload 5, 2) := by decide +kernel
theorem dL_isGroupSo_200 : decode cL_isGroupSo 200 = .ok (.ifCond .eq 11, 3) := by decide +kernel
theorem dL_isGroupSo_203 : decode cL_isGroupSo 203 = .ok (.aload_n 0, 1) := by decide +kernel
theorem dL_isGroupSo_204 : decode cL_isGroupSo 204 = .ok (.iload_n 1, 1) := by decide +kernel
theorem dL_isGroupSo_205 : decode cL_isGroupSo 205 = .ok (.invokevirtual 116, 3) := by decide +kernel
theorem dL_isGroupSo_208 : decode cL_isGroupSo 208 = .ok (.ifCond .eq 38, 3) := by decide +kernel
theorem dL_isGroupSo_211 : decode cL_isGroupSo 211 = .ok (.iload_n 2, 1) := by decide +kernel
theorem dL_isGroupSo_212 : decode cL_isGroupSo 212 = .ok (.ifCond .ne 20, 3) := by decide +kernel
theorem dL_isGroupSo_215 : decode cL_isGroupSo 215 = .ok (.aload_n 0, 1) := by decide +kernel
theorem dL_isGroupSo_216 : decode cL_isGroupSo 216 = .ok (.iload_n 1, 1) := by decide +kernel
theorem dL_isGroupSo_217 : decode cL_isGroupSo 217 = .ok (.invokevirtual 116, 3) := by decide +kernel
theorem dL_isGroupSo_220 : decode cL_isGroupSo 220 = .ok (.iload_n 3, 1) := by decide +kernel
theorem dL_isGroupSo_221 : decode cL_isGroupSo 221 = .ok (.ifCond .ne 7, 3) := by decide +kernel
theorem dL_isGroupSo_224 : decode cL_isGroupSo 224 = .ok (.iconst 1, 1) := by decide +kernel
theorem dL_isGroupSo_225 : decode cL_isGroupSo 225 = .ok (.goto 4, 3) := by decide +kernel
theorem dL_isGroupSo_228 : decode cL_isGroupSo 228 = .ok (.iconst 0, 1) := by decide +kernel
theorem dL_isGroupSo_229 : decode cL_isGroupSo 229 = .ok (.if_icmp .ne 17, 3) := by decide +kernel
theorem dL_isGroupSo_232 : decode cL_isGroupSo 232 = .ok (.iload 4, 2) := by decide +kernel
theorem dL_isGroupSo_234 : decode cL_isGroupSo 234 = .ok (.aload_n 0, 1) := by decide +kernel
theorem dL_isGroupSo_235 : decode cL_isGroupSo 235 = .ok (.iload_n 1, 1) := by decide +kernel
theorem dL_isGroupSo_236 : decode cL_isGroupSo 236 = .ok (.invokevirtual 99, 3) := by decide +kernel
theorem dL_isGroupSo_239 : decode cL_isGroupSo 239 = .ok (.if_icmp .gt 7, 3) := by decide +kernel
theorem dL_isGroupSo_242 : decode cL_isGroupSo 242 = .ok (.iconst 1, 1) := by decide +kernel
theorem dL_isGroupSo_243 : decode cL_isGroupSo 243 = .ok (.goto 4, 3) := by decide +kernel
theorem dL_isGroupSo_246 : decode cL_isGroupSo 246 = .ok (.iconst 0, 1) := by decide +kernel
theorem dL_isGroupSo_247 : decode cL_isGroupSo 247 = .ok (.ireturn, 1) := by decide +kernel
set_option maxRecDepth 20000 in
theorem ggL_law_X0_init : GoodIn wsL_law wsX0_init := goodIn_r _ [6, 7, 8, 9, 10, 11, 12, 13, 14, 15, 16, 17, 18, 19, 20, 21, 22, 23, 24, 25, 26, 27, 251, 252, 253, 254, 255, 256, 257, 258, 259, 260, 261, 262, 263, 264, 265, 266, 267, 268] (by decide +kernel) (by decide +kernel)
set_option maxRecDepth 20000 in
theorem gL_law_X0_init : GoodIn wsL_law (wsX0_init) := ggL_law_X0_init
set_option maxRecDepth 20000 in
theorem ggL_law_L_cell : GoodIn wsL_law wsL_cell := goodIn_r _ [31] (by decide +kernel) (by decide +kernel)
set_option maxRecDepth 20000 in
theorem gL_law_L_cell : GoodIn wsL_law (va_wsS RL 121 yL_cell wsL_cell) := goodIn_app (goodIn_of _ (by decide +kernel)) ggL_law_L_cell
set_option maxRecDepth 20000 in
theorem ggL_law_L_act : GoodIn wsL_law wsL_act := goodIn_ca (goodIn_ca (goodIn_r _ [34, 35, 36, 30, 37, 38, 39, 40, 41, 42, 3, 43, 44, 45, 2, 46, 21, 22, 11, 47, 48, 49, 50, 51, 52, 53, 54, 55, 56, 57, 58, 59, 60, 61, 62, 63, 64, 20, 12, 65, 66, 67, 68, 69, 70, 71, 72, 13, 15, 73, 74, 75, 76, 77, 78, 79, 80, 81, 82, 83, 24, 23, 84, 85, 86, 87, 16, 88, 89, 90, 91, 92, 93, 94, 95, 25, 27, 96, 97, 98, 99, 100, 17, 18, 101, 102, 103, 104, 105, 106, 107, 108, 109, 110, 111, 112, 113, 114, 115, 116, 117, 118, 119, 120, 121, 122, 123, 124, 125, 126, 127, 128, 129, 130, 131, 132, 133, 134, 135, 136, 137, 138, 139, 140, 141, 142, 143, 144, 145, 146, 147, 148, 149, 150, 151, 152, 153, 154, 155, 156, 157, 158, 159, 160, 161, 162, 163, 164, 165, 166, 167, 168, 169, 170, 171, 172, 173, 174, 175, 176, 177, 178, 179, 180, 181, 182, 183, 184, 185, 186, 187, 188, 189, 26, 190, 191, 192, 193, 19, 194, 195, 196, 197, 251, 252, 253, 254, 255, 256, 257, 258, 259, 260, 261, 262, 263, 264, 265, 266, 267, 268] (by decide +kernel) (by decide +kernel)) (goodIn_sub (fun _ h => List.mem_append_left _ (List.mem_append_right _ h)) (by decide +kernel))) (goodIn_sub (fun _ h => List.mem_append_right _ h) (by decide +kernel))
set_option maxRecDepth 20000 in
theorem gL_law_L_act : GoodIn wsL_law (va_wsS RL 125 yL_act wsL_act) := goodIn_app (goodIn_of _ (by decide +kernel)) ggL_law_L_act
set_option maxRecDepth 20000 in
theorem ggL_law_L_areAlike : GoodIn wsL_law wsL_areAlike := goodIn_ca (goodIn_ca (goodIn_r _ [200, 201, 202, 203, 2, 204, 96, 205, 206, 207, 208, 52, 53, 54, 50, 51, 194, 195, 196, 197, 22, 58, 59, 60, 209, 210, 211, 212, 19, 213, 214, 215, 216, 20, 217, 218, 219, 220, 47, 48, 49, 221, 222, 30, 223, 42, 146, 3, 224, 225, 226, 227, 151, 152, 23, 228, 229, 230, 231, 25, 232, 233, 234, 235, 26, 251, 252, 253, 254, 255, 256, 257, 258, 259, 260, 261, 262, 263, 264, 265, 266, 267, 268] (by decide +kernel) (by decide +kernel)) (goodIn_sub (fun _ h => List.mem_append_left _ (List.mem_append_right _ h)) (by decide +kernel))) (goodIn_sub (fun _ h => List.mem_append_right _ h) (by decide +kernel))
set_option maxRecDepth 20000 in
theorem gL_law_L_areAlike : GoodIn wsL_law (va_wsS RL 128 yL_areAlike wsL_areAlike) := goodIn_app (goodIn_of _ (by decide +kernel)) ggL_law_L_areAlike
set_option maxRecDepth 20000 in
theorem ggL_law_L_isGroupSo : GoodIn wsL_law wsL_isGroupSo := goodIn_ca (goodIn_ca (goodIn_r _ [238, 217, 218, 219, 2, 220, 22, 47, 48, 49, 50, 51, 52, 53, 54, 58, 59, 60, 221, 222, 30, 223, 42, 146, 3, 224, 225, 226, 227, 151, 152, 23, 239, 240, 241, 242, 69, 70, 71, 72, 21, 13, 15, 73, 74, 75, 76, 77, 78, 79, 228, 229, 230, 231, 25, 232, 233, 234, 235, 26, 205, 206, 207, 208, 194, 195, 196, 197, 243, 244, 245, 246, 247, 248, 249, 250, 12, 213, 214, 215, 216, 20, 251, 252, 253, 254, 255, 256, 257, 258, 259, 260, 261, 262, 263, 264, 265, 266, 267, 268] (by decide +kernel) (by decide +kernel)) (goodIn_sub (fun _ h => List.mem_append_left _ (List.mem_append_right _ h)) (by decide +kernel))) (goodIn_sub (fun _ h => List.mem_append_right _ h) (by decide +kernel))
set_option maxRecDepth 20000 in
theorem gL_law_L_isGroupSo : GoodIn wsL_law (va_wsS RL 132 yL_isGroupSo wsL_isGroupSo) := goodIn_app (goodIn_of _ (by decide +kernel)) ggL_law_L_isGroupSo
set_option maxRecDepth 20000 in
theorem ggL_law_L_low : GoodIn wsL_law wsL_low := goodIn_r _ [37, 38] (by decide +kernel) (by decide +kernel)
set_option maxRecDepth 20000 in
theorem gL_law_L_low : GoodIn wsL_law (va_wsS RL 57 yL_low wsL_low) := goodIn_app (goodIn_of _ (by decide +kernel)) ggL_law_L_low
set_option maxRecDepth 20000 in
theorem ggL_law_X0_tick : GoodIn wsL_law wsX0_tick := goodIn_ca (goodIn_r _ [180, 181, 55, 56, 2, 57, 50, 51, 182, 183, 184, 185, 22, 23, 16, 58, 59, 60, 69, 70, 71, 72, 21, 13, 15, 73, 74, 75, 76, 77, 78, 79, 61, 62, 63, 64, 20, 12, 65, 66, 67, 68, 80, 81, 82, 83, 24, 84, 85, 86, 87, 88, 89, 90, 91, 92, 93, 94, 95, 25, 27, 96, 97, 98, 99, 100, 17, 18, 186, 187, 188, 189, 26, 190, 191, 192, 193, 19, 194, 195, 196, 197, 251, 252, 253, 254, 255, 256, 257, 258, 259, 260, 261, 262, 263, 264, 265, 266, 267, 268] (by decide +kernel) (by decide +kernel)) (goodIn_sub (fun _ h => List.mem_append_left _ (List.mem_append_right _ h)) (by decide +kernel))
set_option maxRecDepth 20000 in
theorem gL_law_X0_tick : GoodIn wsL_law (wsV RL 51 RX0 yX0_tick wsX0_tick) := goodIn_app (goodIn_of _ (by decide +kernel)) ggL_law_X0_tick
theorem dL_law_0 : decode cL_law 0 = .ok (.new 9, 3) := by decide +kernel
theorem dL_law_3 : decode cL_law 3 = .ok (.dup, 1) := by decide +kernel
theorem dL_law_4 : decode cL_law 4 = .ok (.invokespecial 120, 3) := by decide +kernel
theorem dL_law_7 : decode cL_law 7 = .ok (.astore_n 1, 1) := by decide +kernel
theorem dL_law_8 : decode cL_law 8 = .ok (.new 9, 3) := by decide +kernel
theorem dL_law_11 : decode cL_law 11 = .ok (.dup, 1) := by decide +kernel
theorem dL_law_12 : decode cL_law 12 = .ok (.invokespecial 120, 3) := by decide +kernel
theorem dL_law_15 : decode cL_law 15 = .ok (.astore_n 2, 1) := by decide +kernel
theorem dL_law_16 : decode cL_law 16 = .ok (.iconst 0, 1) := by decide +kernel
theorem dL_law_17 : decode cL_law 17 = .ok (.istore_n 3, 1) := by decide +kernel
theorem dL_law_18 : decode cL_law 18 = .ok (.iconst 0, 1) := by decide +kernel
theorem dL_law_19 : decode cL_law 19 = .ok (.istore 4, 2) := by decide +kernel
theorem dL_law_21 : decode cL_law 21 = .ok (.iload 4, 2) := by decide +kernel
theorem dL_law_23 : decode cL_law 23 = .ok (.bipush 90, 2) := by decide +kernel
theorem dL_law_25 : decode cL_law 25 = .ok (.if_icmp .ge 88, 3) := by decide +kernel
theorem dL_law_28 : decode cL_law 28 = .ok (.aload_n 0, 1) := by decide +kernel
theorem dL_law_29 : decode cL_law 29 = .ok (.iload 4, 2) := by decide +kernel
theorem dL_law_31 : decode cL_law 31 = .ok (.invokestatic 121, 3) := by decide +kernel
theorem dL_law_34 : decode cL_law 34 = .ok (.istore 5, 2) := by decide +kernel
theorem dL_law_36 : decode cL_law 36 = .ok (.aload_n 1, 1) := by decide +kernel
theorem dL_law_37 : decode cL_law 37 = .ok (.iload 5, 2) := by decide +kernel
theorem dL_law_39 : decode cL_law 39 = .ok (.invokestatic 125, 3) := by decide +kernel
theorem dL_law_42 : decode cL_law 42 = .ok (.istore 6, 2) := by decide +kernel
theorem dL_law_44 : decode cL_law 44 = .ok (.iload 6, 2) := by decide +kernel
theorem dL_law_46 : decode cL_law 46 = .ok (.ldc 16, 2) := by decide +kernel
theorem dL_law_48 : decode cL_law 48 = .ok (.if_icmp .eq 14, 3) := by decide +kernel
theorem dL_law_51 : decode cL_law 51 = .ok (.aload_n 2, 1) := by decide +kernel
theorem dL_law_52 : decode cL_law 52 = .ok (.iload 5, 2) := by decide +kernel
theorem dL_law_54 : decode cL_law 54 = .ok (.invokestatic 125, 3) := by decide +kernel
theorem dL_law_57 : decode cL_law 57 = .ok (.iload 6, 2) := by decide +kernel
theorem dL_law_59 : decode cL_law 59 = .ok (.if_icmp .ne 22, 3) := by decide +kernel
theorem dL_law_62 : decode cL_law 62 = .ok (.aload_n 1, 1) := by decide +kernel
theorem dL_law_63 : decode cL_law 63 = .ok (.aload_n 2, 1) := by decide +kernel
theorem dL_law_64 : decode cL_law 64 = .ok (.invokestatic 128, 3) := by decide +kernel
theorem dL_law_67 : decode cL_law 67 = .ok (.ifCond .eq 14, 3) := by decide +kernel
theorem dL_law_70 : decode cL_law 70 = .ok (.aload_n 1, 1) := by decide +kernel
theorem dL_law_71 : decode cL_law 71 = .ok (.iload 4, 2) := by decide +kernel
theorem dL_law_73 : decode cL_law 73 = .ok (.iconst 3, 1) := by decide +kernel
theorem dL_law_74 : decode cL_law 74 = .ok (.irem, 1) := by decide +kernel
theorem dL_law_75 : decode cL_law 75 = .ok (.invokestatic 132, 3) := by decide +kernel
theorem dL_law_78 : decode cL_law 78 = .ok (.ifCond .ne 5, 3) := by decide +kernel
theorem dL_law_81 : decode cL_law 81 = .ok (.iconst 0, 1) := by decide +kernel
theorem dL_law_82 : decode cL_law 82 = .ok (.ireturn, 1) := by decide +kernel
theorem dL_law_83 : decode cL_law 83 = .ok (.iload 6, 2) := by decide +kernel
theorem dL_law_85 : decode cL_law 85 = .ok (.ifCond .le 20, 3) := by decide +kernel
theorem dL_law_88 : decode cL_law 88 = .ok (.iload 5, 2) := by decide +kernel
theorem dL_law_90 : decode cL_law 90 = .ok (.bipush 18, 2) := by decide +kernel
theorem dL_law_92 : decode cL_law 92 = .ok (.invokestatic 57, 3) := by decide +kernel
theorem dL_law_95 : decode cL_law 95 = .ok (.bipush 14, 2) := by decide +kernel
theorem dL_law_97 : decode cL_law 97 = .ok (.if_icmp .le 8, 3) := by decide +kernel
theorem dL_law_100 : decode cL_law 100 = .ok (.iload 6, 2) := by decide +kernel
theorem dL_law_102 : decode cL_law 102 = .ok (.goto 4, 3) := by decide +kernel
theorem dL_law_105 : decode cL_law 105 = .ok (.iload_n 3, 1) := by decide +kernel
theorem dL_law_106 : decode cL_law 106 = .ok (.istore_n 3, 1) := by decide +kernel
theorem dL_law_107 : decode cL_law 107 = .ok (.iinc 4 1, 3) := by decide +kernel
theorem dL_law_110 : decode cL_law 110 = .ok (.goto (-89), 3) := by decide +kernel
theorem dL_law_113 : decode cL_law 113 = .ok (.aload_n 1, 1) := by decide +kernel
theorem dL_law_114 : decode cL_law 114 = .ok (.bipush 30, 2) := by decide +kernel
theorem dL_law_116 : decode cL_law 116 = .ok (.invokevirtual 51, 3) := by decide +kernel
theorem dL_law_119 : decode cL_law 119 = .ok (.istore 4, 2) := by decide +kernel
theorem dL_law_121 : decode cL_law 121 = .ok (.iconst 0, 1) := by decide +kernel
theorem dL_law_122 : decode cL_law 122 = .ok (.istore 5, 2) := by decide +kernel
theorem dL_law_124 : decode cL_law 124 = .ok (.iload 5, 2) := by decide +kernel
theorem dL_law_126 : decode cL_law 126 = .ok (.bipush 30, 2) := by decide +kernel
theorem dL_law_128 : decode cL_law 128 = .ok (.if_icmp .ge 15, 3) := by decide +kernel
theorem dL_law_131 : decode cL_law 131 = .ok (.aload_n 2, 1) := by decide +kernel
theorem dL_law_132 : decode cL_law 132 = .ok (.iconst 1, 1) := by decide +kernel
theorem dL_law_133 : decode cL_law 133 = .ok (.invokevirtual 51, 3) := by decide +kernel
theorem dL_law_136 : decode cL_law 136 = .ok (.istore_n 3, 1) := by decide +kernel
theorem dL_law_137 : decode cL_law 137 = .ok (.iinc 5 1, 3) := by decide +kernel
theorem dL_law_140 : decode cL_law 140 = .ok (.goto (-16), 3) := by decide +kernel
theorem dL_law_143 : decode cL_law 143 = .ok (.iload_n 3, 1) := by decide +kernel
theorem dL_law_144 : decode cL_law 144 = .ok (.iload 4, 2) := by decide +kernel
theorem dL_law_146 : decode cL_law 146 = .ok (.if_icmp .ne 15, 3) := by decide +kernel
theorem dL_law_149 : decode cL_law 149 = .ok (.aload_n 1, 1) := by decide +kernel
theorem dL_law_150 : decode cL_law 150 = .ok (.aload_n 2, 1) := by decide +kernel
theorem dL_law_151 : decode cL_law 151 = .ok (.invokestatic 128, 3) := by decide +kernel
theorem dL_law_154 : decode cL_law 154 = .ok (.ifCond .eq 7, 3) := by decide +kernel
theorem dL_law_157 : decode cL_law 157 = .ok (.iconst 1, 1) := by decide +kernel
theorem dL_law_158 : decode cL_law 158 = .ok (.goto 4, 3) := by decide +kernel
theorem dL_law_161 : decode cL_law 161 = .ok (.iconst 0, 1) := by decide +kernel
theorem dL_law_162 : decode cL_law 162 = .ok (.ireturn, 1) := by decide +kernel
