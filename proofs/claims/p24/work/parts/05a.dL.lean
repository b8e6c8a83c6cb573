theorem dJ9_max_7cf53_0 : decode cJ9_max_7cf53 0 = .ok (.iload_n 0, 1) := by decide +kernel
theorem dJ9_max_7cf53_1 : decode cJ9_max_7cf53 1 = .ok (.iload_n 1, 1) := by decide +kernel
theorem dJ9_max_7cf53_2 : decode cJ9_max_7cf53 2 = .ok (.if_icmp .lt 7, 3) := by decide +kernel
theorem dJ9_max_7cf53_5 : decode cJ9_max_7cf53 5 = .ok (.iload_n 0, 1) := by decide +kernel
theorem dJ9_max_7cf53_6 : decode cJ9_max_7cf53 6 = .ok (.goto 4, 3) := by decide +kernel
theorem dJ9_max_7cf53_9 : decode cJ9_max_7cf53 9 = .ok (.iload_n 1, 1) := by decide +kernel
theorem dJ9_max_7cf53_10 : decode cJ9_max_7cf53 10 = .ok (.ireturn, 1) := by decide +kernel
theorem dL_cell_0 : decode cL_cell 0 = .ok (.iload_n 1, 1) := by decide +kernel
theorem dL_cell_1 : decode cL_cell 1 = .ok (.aload_n 0, 1) := by decide +kernel
theorem dL_cell_2 : decode cL_cell 2 = .ok (.arraylength, 1) := by decide +kernel
theorem dL_cell_3 : decode cL_cell 3 = .ok (.if_icmp .ge 9, 3) := by decide +kernel
theorem dL_cell_6 : decode cL_cell 6 = .ok (.aload_n 0, 1) := by decide +kernel
theorem dL_cell_7 : decode cL_cell 7 = .ok (.iload_n 1, 1) := by decide +kernel
theorem dL_cell_8 : decode cL_cell 8 = .ok (.iaload, 1) := by decide +kernel
theorem dL_cell_9 : decode cL_cell 9 = .ok (.goto 18, 3) := by decide +kernel
theorem dL_cell_12 : decode cL_cell 12 = .ok (.sipush 7919, 3) := by decide +kernel
theorem dL_cell_15 : decode cL_cell 15 = .ok (.iload_n 1, 1) := by decide +kernel
theorem dL_cell_16 : decode cL_cell 16 = .ok (.sipush 641, 3) := by decide +kernel
theorem dL_cell_19 : decode cL_cell 19 = .ok (.iadd, 1) := by decide +kernel
theorem dL_cell_20 : decode cL_cell 20 = .ok (.imul, 1) := by decide +kernel
theorem dL_cell_21 : decode cL_cell 21 = .ok (.iload_n 1, 1) := by decide +kernel
theorem dL_cell_22 : decode cL_cell 22 = .ok (.sipush 1213, 3) := by decide +kernel
theorem dL_cell_25 : decode cL_cell 25 = .ok (.iadd, 1) := by decide +kernel
theorem dL_cell_26 : decode cL_cell 26 = .ok (.imul, 1) := by decide +kernel
theorem dL_cell_27 : decode cL_cell 27 = .ok (.ireturn, 1) := by decide +kernel
theorem dL_low_0 : decode cL_low 0 = .ok (.iload_n 0, 1) := by decide +kernel
theorem dL_low_1 : decode cL_low 1 = .ok (.ldc 7, 2) := by decide +kernel
theorem dL_low_3 : decode cL_low 3 = .ok (.iand, 1) := by decide +kernel
theorem dL_low_4 : decode cL_low 4 = .ok (.iload_n 1, 1) := by decide +kernel
theorem dL_low_5 : decode cL_low 5 = .ok (.irem, 1) := by decide +kernel
theorem dL_low_6 : decode cL_low 6 = .ok (.ireturn, 1) := by decide +kernel
set_option maxRecDepth 20000 in
theorem ggL_setPriority_X0_setPriority : GoodIn wsL_setPriority wsX0_setPriority := goodIn_ca (goodIn_r _ [7, 8, 9, 10, 11, 12, 6, 13, 14, 15, 16, 17, 18, 19, 20, 21, 22, 23, 24, 25, 26, 27, 28, 29, 30, 31, 32, 33, 34, 35, 36, 37, 38, 39, 40, 41, 42, 43, 44, 45, 46, 47, 48, 49, 50, 51, 52, 53, 54, 55, 56, 57, 58, 59, 60, 61, 62, 63, 64, 65, 66, 67, 68, 69, 70, 71, 72, 73, 74, 75, 76, 77, 78, 79, 80, 81, 82, 83, 84, 85, 86, 87, 88, 89, 90, 91, 92, 93, 94, 95, 96, 97] (by decide +kernel) (by decide +kernel)) (goodIn_sub (fun _ h => List.mem_cons_of_mem _ (List.mem_append_right _ h)) (by decide +kernel))
set_option maxRecDepth 20000 in
theorem gL_setPriority_X0_setPriority : GoodIn wsL_setPriority (wsV RL 8 RX0 yX0_setPriority wsX0_setPriority) := goodIn_app (goodIn_of _ (by decide +kernel)) ggL_setPriority_X0_setPriority
theorem dL_setPriority_0 : decode cL_setPriority 0 = .ok (.aload_n 0, 1) := by decide +kernel
theorem dL_setPriority_1 : decode cL_setPriority 1 = .ok (.iload_n 1, 1) := by decide +kernel
theorem dL_setPriority_2 : decode cL_setPriority 2 = .ok (.iload_n 2, 1) := by decide +kernel
theorem dL_setPriority_3 : decode cL_setPriority 3 = .ok (.iload_n 3, 1) := by decide +kernel
theorem dL_setPriority_4 : decode cL_setPriority 4 = .ok (.invokevirtual 8, 3) := by decide +kernel
theorem dL_setPriority_7 : decode cL_setPriority 7 = .ok (.ireturn, 1) := by decide +kernel
theorem dL_setPriority_8 : decode cL_setPriority 8 = .ok (.astore 4, 2) := by decide +kernel
theorem dL_setPriority_10 : decode cL_setPriority 10 = .ok (.ldc 16, 2) := by decide +kernel
theorem dL_setPriority_12 : decode cL_setPriority 12 = .ok (.ireturn, 1) := by decide +kernel
set_option maxRecDepth 20000 in
theorem ggL_track_X0_track : GoodIn wsL_track wsX0_track := goodIn_ca (goodIn_r _ [7, 8, 9, 10, 6, 11, 12, 13, 14, 15, 16, 17, 18, 19, 20, 21, 22, 23, 24, 25, 26, 27, 28, 29, 30, 31, 32, 33, 34, 35, 36, 37, 38, 39, 40] (by decide +kernel) (by decide +kernel)) (goodIn_sub (fun _ h => List.mem_cons_of_mem _ (List.mem_append_right _ h)) (by decide +kernel))
set_option maxRecDepth 20000 in
theorem gL_track_X0_track : GoodIn wsL_track (wsV RL 17 RX0 yX0_track wsX0_track) := goodIn_app (goodIn_of _ (by decide +kernel)) ggL_track_X0_track
theorem dL_track_0 : decode cL_track 0 = .ok (.aload_n 0, 1) := by decide +kernel
theorem dL_track_1 : decode cL_track 1 = .ok (.iload_n 1, 1) := by decide +kernel
theorem dL_track_2 : decode cL_track 2 = .ok (.iload_n 2, 1) := by decide +kernel
theorem dL_track_3 : decode cL_track 3 = .ok (.iload_n 3, 1) := by decide +kernel
theorem dL_track_4 : decode cL_track 4 = .ok (.invokevirtual 17, 3) := by decide +kernel
theorem dL_track_7 : decode cL_track 7 = .ok (.ireturn, 1) := by decide +kernel
theorem dL_track_8 : decode cL_track 8 = .ok (.astore 4, 2) := by decide +kernel
theorem dL_track_10 : decode cL_track 10 = .ok (.ldc 16, 2) := by decide +kernel
theorem dL_track_12 : decode cL_track 12 = .ok (.ireturn, 1) := by decide +kernel
set_option maxRecDepth 20000 in
theorem ggL_setLink_X0_setLink : GoodIn wsL_setLink wsX0_setLink := goodIn_ca (goodIn_r _ [7, 8, 9, 10, 6, 11, 12, 13, 14, 15, 16, 17, 18, 19, 20, 21, 22, 23, 24, 25, 26, 27, 28, 29, 30, 31, 32, 33, 34, 35, 36, 37] (by decide +kernel) (by decide +kernel)) (goodIn_sub (fun _ h => List.mem_cons_of_mem _ (List.mem_append_right _ h)) (by decide +kernel))
set_option maxRecDepth 20000 in
theorem gL_setLink_X0_setLink : GoodIn wsL_setLink (wsV RL 20 RX0 yX0_setLink wsX0_setLink) := goodIn_app (goodIn_of _ (by decide +kernel)) ggL_setLink_X0_setLink
theorem dL_setLink_0 : decode cL_setLink 0 = .ok (.aload_n 0, 1) := by decide +kernel
theorem dL_setLink_1 : decode cL_setLink 1 = .ok (.iload_n 1, 1) := by decide +kernel
theorem dL_setLink_2 : decode cL_setLink 2 = .ok (.iload_n 2, 1) := by decide +kernel
theorem dL_setLink_3 : decode cL_setLink 3 = .ok (.iload_n 3, 1) := by decide +kernel
theorem dL_setLink_4 : decode cL_setLink 4 = .ok (.invokevirtual 20, 3) := by decide +kernel
theorem dL_setLink_7 : decode cL_setLink 7 = .ok (.ifCond .eq 7, 3) := by decide +kernel
theorem dL_setLink_10 : decode cL_setLink 10 = .ok (.iconst 1, 1) := by decide +kernel
theorem dL_setLink_11 : decode cL_setLink 11 = .ok (.goto 4, 3) := by decide +kernel
theorem dL_setLink_14 : decode cL_setLink 14 = .ok (.iconst 0, 1) := by decide +kernel
theorem dL_setLink_15 : decode cL_setLink 15 = .ok (.ireturn, 1) := by decide +kernel
theorem dL_setLink_16 : decode cL_setLink 16 = .ok (.astore 4, 2) := by decide +kernel
theorem dL_setLink_18 : decode cL_setLink 18 = .ok (.ldc 16, 2) := by decide +kernel
theorem dL_setLink_20 : decode cL_setLink 20 = .ok (.ireturn, 1) := by decide +kernel
set_option maxRecDepth 20000 in
theorem ggL_setPeriod_X0_setPeriod : GoodIn wsL_setPeriod wsX0_setPeriod := goodIn_ca (goodIn_r _ [7, 8, 9, 10, 6, 11, 12, 13, 14, 15, 16, 17, 18, 19, 20, 21, 22, 23, 24, 25, 26, 27, 28, 29, 30, 31, 32, 33, 34] (by decide +kernel) (by decide +kernel)) (goodIn_sub (fun _ h => List.mem_cons_of_mem _ (List.mem_append_right _ h)) (by decide +kernel))
set_option maxRecDepth 20000 in
theorem gL_setPeriod_X0_setPeriod : GoodIn wsL_setPeriod (wsV RL 24 RX0 yX0_setPeriod wsX0_setPeriod) := goodIn_app (goodIn_of _ (by decide +kernel)) ggL_setPeriod_X0_setPeriod
theorem dL_setPeriod_0 : decode cL_setPeriod 0 = .ok (.aload_n 0, 1) := by decide +kernel
theorem dL_setPeriod_1 : decode cL_setPeriod 1 = .ok (.iload_n 1, 1) := by decide +kernel
theorem dL_setPeriod_2 : decode cL_setPeriod 2 = .ok (.iload_n 2, 1) := by decide +kernel
theorem dL_setPeriod_3 : decode cL_setPeriod 3 = .ok (.invokevirtual 24, 3) := by decide +kernel
theorem dL_setPeriod_6 : decode cL_setPeriod 6 = .ok (.ireturn, 1) := by decide +kernel
theorem dL_setPeriod_7 : decode cL_setPeriod 7 = .ok (.astore_n 3, 1) := by decide +kernel
theorem dL_setPeriod_8 : decode cL_setPeriod 8 = .ok (.ldc 16, 2) := by decide +kernel
theorem dL_setPeriod_10 : decode cL_setPeriod 10 = .ok (.ireturn, 1) := by decide +kernel
set_option maxRecDepth 20000 in
theorem ggL_setPreemption_X0_setPreemption : GoodIn wsL_setPreemption wsX0_setPreemption := goodIn_ca (goodIn_r _ [7, 8, 9, 10, 11, 6, 12, 13, 14, 15, 16, 17, 18, 19, 20, 21, 22, 23, 24, 25, 26, 27, 28, 29, 30, 31, 32, 33, 34, 35] (by decide +kernel) (by decide +kernel)) (goodIn_sub (fun _ h => List.mem_cons_of_mem _ (List.mem_append_right _ h)) (by decide +kernel))
set_option maxRecDepth 20000 in
theorem gL_setPreemption_X0_setPreemption : GoodIn wsL_setPreemption (wsV RL 28 RX0 yX0_setPreemption wsX0_setPreemption) := goodIn_app (goodIn_of _ (by decide +kernel)) ggL_setPreemption_X0_setPreemption
theorem dL_setPreemption_0 : decode cL_setPreemption 0 = .ok (.aload_n 0, 1) := by decide +kernel
theorem dL_setPreemption_1 : decode cL_setPreemption 1 = .ok (.iload_n 1, 1) := by decide +kernel
theorem dL_setPreemption_2 : decode cL_setPreemption 2 = .ok (.iload_n 2, 1) := by decide +kernel
theorem dL_setPreemption_3 : decode cL_setPreemption 3 = .ok (.iload_n 3, 1) := by decide +kernel
theorem dL_setPreemption_4 : decode cL_setPreemption 4 = .ok (.invokevirtual 28, 3) := by decide +kernel
theorem dL_setPreemption_7 : decode cL_setPreemption 7 = .ok (.iconst 0, 1) := by decide +kernel
theorem dL_setPreemption_8 : decode cL_setPreemption 8 = .ok (.ireturn, 1) := by decide +kernel
theorem dL_setPreemption_9 : decode cL_setPreemption 9 = .ok (.astore 4, 2) := by decide +kernel
theorem dL_setPreemption_11 : decode cL_setPreemption 11 = .ok (.ldc 16, 2) := by decide +kernel
theorem dL_setPreemption_13 : decode cL_setPreemption 13 = .ok (.ireturn, 1) := by decide +kernel
set_option maxRecDepth 20000 in
theorem ggL_join_X0_join : GoodIn wsL_join wsX0_join := goodIn_ca (goodIn_r _ [7, 8, 9, 10, 11, 12, 6, 13, 14, 15, 16, 17, 18, 19, 20, 21, 22, 23, 24, 25, 26, 27, 28, 29, 30, 31] (by decide +kernel) (by decide +kernel)) (goodIn_sub (fun _ h => List.mem_cons_of_mem _ (List.mem_append_right _ h)) (by decide +kernel))
set_option maxRecDepth 20000 in
theorem gL_join_X0_join : GoodIn wsL_join (wsV RL 32 RX0 yX0_join wsX0_join) := goodIn_app (goodIn_of _ (by decide +kernel)) ggL_join_X0_join
theorem dL_join_0 : decode cL_join 0 = .ok (.aload_n 0, 1) := by decide +kernel
theorem dL_join_1 : decode cL_join 1 = .ok (.iload_n 1, 1) := by decide +kernel
theorem dL_join_2 : decode cL_join 2 = .ok (.iload_n 2, 1) := by decide +kernel
theorem dL_join_3 : decode cL_join 3 = .ok (.iload_n 3, 1) := by decide +kernel
theorem dL_join_4 : decode cL_join 4 = .ok (.invokevirtual 32, 3) := by decide +kernel
theorem dL_join_7 : decode cL_join 7 = .ok (.ifCond .eq 7, 3) := by decide +kernel
theorem dL_join_10 : decode cL_join 10 = .ok (.iconst 1, 1) := by decide +kernel
theorem dL_join_11 : decode cL_join 11 = .ok (.goto 4, 3) := by decide +kernel
theorem dL_join_14 : decode cL_join 14 = .ok (.iconst 0, 1) := by decide +kernel
theorem dL_join_15 : decode cL_join 15 = .ok (.ireturn, 1) := by decide +kernel
theorem dL_join_16 : decode cL_join 16 = .ok (.astore 4, 2) := by decide +kernel
theorem dL_join_18 : decode cL_join 18 = .ok (.ldc 16, 2) := by decide +kernel
theorem dL_join_20 : decode cL_join 20 = .ok (.ireturn, 1) := by decide +kernel
set_option maxRecDepth 20000 in
theorem ggL_die_X0_die : GoodIn wsL_die wsX0_die := goodIn_ca (goodIn_ca (goodIn_r _ [8, 9, 10, 11, 12, 13, 14, 7, 15, 16, 17, 18, 19, 20, 21, 22, 23, 24, 25, 26, 27, 28, 29, 30, 31, 32, 33, 34, 35, 36, 37, 38] (by decide +kernel) (by decide +kernel)) (goodIn_sub (fun _ h => List.mem_cons_of_mem _ (List.mem_append_left _ (List.mem_append_right _ h))) (by decide +kernel))) (goodIn_sub (fun _ h => List.mem_cons_of_mem _ (List.mem_append_right _ h)) (by decide +kernel))
set_option maxRecDepth 20000 in
theorem gL_die_X0_die : GoodIn wsL_die (wsV RL 35 RX0 yX0_die wsX0_die) := goodIn_app (goodIn_of _ (by decide +kernel)) ggL_die_X0_die
theorem dL_die_0 : decode cL_die 0 = .ok (.aload_n 0, 1) := by decide +kernel
theorem dL_die_1 : decode cL_die 1 = .ok (.iload_n 1, 1) := by decide +kernel
theorem dL_die_2 : decode cL_die 2 = .ok (.invokevirtual 35, 3) := by decide +kernel
theorem dL_die_5 : decode cL_die 5 = .ok (.ireturn, 1) := by decide +kernel
theorem dL_die_6 : decode cL_die 6 = .ok (.astore_n 2, 1) := by decide +kernel
theorem dL_die_7 : decode cL_die 7 = .ok (.ldc 16, 2) := by decide +kernel
theorem dL_die_9 : decode cL_die 9 = .ok (.ireturn, 1) := by decide +kernel
theorem dL_die_10 : decode cL_die 10 = .ok (.astore_n 2, 1) := by decide +kernel
theorem dL_die_11 : decode cL_die 11 = .ok (.ldc 16, 2) := by decide +kernel
theorem dL_die_13 : decode cL_die 13 = .ok (.ireturn, 1) := by decide +kernel
set_option maxRecDepth 20000 in
theorem ggL_live_X0_live : GoodIn wsL_live wsX0_live := goodIn_ca (goodIn_ca (goodIn_r _ [8, 9, 10, 11, 12, 13, 14, 7, 15, 16, 17, 18, 19, 20, 21, 22, 23, 24, 25, 26, 27, 28, 29, 30, 31, 32, 33, 34, 35, 36, 37, 38, 39, 40, 41, 42, 43, 44, 45, 46, 47, 48, 49, 50, 51, 52, 53, 54, 55, 56, 57, 58, 59, 60, 61, 62, 63, 64, 65, 66, 67, 68, 69, 70, 71, 72] (by decide +kernel) (by decide +kernel)) (goodIn_sub (fun _ h => List.mem_cons_of_mem _ (List.mem_append_left _ (List.mem_append_right _ h))) (by decide +kernel))) (goodIn_sub (fun _ h => List.mem_cons_of_mem _ (List.mem_append_right _ h)) (by decide +kernel))
set_option maxRecDepth 20000 in
theorem gL_live_X0_live : GoodIn wsL_live (wsV RL 41 RX0 yX0_live wsX0_live) := goodIn_app (goodIn_of _ (by decide +kernel)) ggL_live_X0_live
theorem dL_live_0 : decode cL_live 0 = .ok (.aload_n 0, 1) := by decide +kernel
theorem dL_live_1 : decode cL_live 1 = .ok (.iload_n 1, 1) := by decide +kernel
theorem dL_live_2 : decode cL_live 2 = .ok (.invokevirtual 41, 3) := by decide +kernel
theorem dL_live_5 : decode cL_live 5 = .ok (.ireturn, 1) := by decide +kernel
theorem dL_live_6 : decode cL_live 6 = .ok (.astore_n 2, 1) := by decide +kernel
theorem dL_live_7 : decode cL_live 7 = .ok (.ldc 16, 2) := by decide +kernel
theorem dL_live_9 : decode cL_live 9 = .ok (.ireturn, 1) := by decide +kernel
theorem dL_live_10 : decode cL_live 10 = .ok (.astore_n 2, 1) := by decide +kernel
theorem dL_live_11 : decode cL_live 11 = .ok (.ldc 16, 2) := by decide +kernel
theorem dL_live_13 : decode cL_live 13 = .ok (.ireturn, 1) := by decide +kernel
set_option maxRecDepth 20000 in
theorem ggL_handOver_X0_handOver : GoodIn wsL_handOver wsX0_handOver := goodIn_ca (goodIn_ca (goodIn_r _ [8, 9, 10, 11, 12, 13, 7, 14, 15, 16, 17, 18, 19, 20, 21, 22, 23, 24, 25, 26, 27, 28, 29, 30, 31, 32, 33, 34, 35, 36, 37, 38, 39, 40, 41, 42, 43, 44, 45, 46, 47, 48, 49, 50, 51, 52, 53, 54, 55, 56, 57, 58, 59, 60, 61, 62, 63, 64, 65, 66, 67, 68, 69, 70, 71, 72, 73, 74, 75, 76, 77, 78, 79, 80, 81, 82, 83, 84, 85, 86, 87, 88, 89, 90, 91, 92] (by decide +kernel) (by decide +kernel)) (goodIn_sub (fun _ h => List.mem_cons_of_mem _ (List.mem_append_left _ (List.mem_append_right _ h))) (by decide +kernel))) (goodIn_sub (fun _ h => List.mem_cons_of_mem _ (List.mem_append_right _ h)) (by decide +kernel))
set_option maxRecDepth 20000 in
theorem gL_handOver_X0_handOver : GoodIn wsL_handOver (wsV RL 44 RX0 yX0_handOver wsX0_handOver) := goodIn_app (goodIn_of _ (by decide +kernel)) ggL_handOver_X0_handOver
theorem dL_handOver_0 : decode cL_handOver 0 = .ok (.aload_n 0, 1) := by decide +kernel
theorem dL_handOver_1 : decode cL_handOver 1 = .ok (.iload_n 1, 1) := by decide +kernel
theorem dL_handOver_2 : decode cL_handOver 2 = .ok (.iload_n 2, 1) := by decide +kernel
theorem dL_handOver_3 : decode cL_handOver 3 = .ok (.invokevirtual 44, 3) := by decide +kernel
theorem dL_handOver_6 : decode cL_handOver 6 = .ok (.iconst 0, 1) := by decide +kernel
theorem dL_handOver_7 : decode cL_handOver 7 = .ok (.ireturn, 1) := by decide +kernel
theorem dL_handOver_8 : decode cL_handOver 8 = .ok (.astore_n 3, 1) := by decide +kernel
theorem dL_handOver_9 : decode cL_handOver 9 = .ok (.ldc 16, 2) := by decide +kernel
theorem dL_handOver_11 : decode cL_handOver 11 = .ok (.ireturn, 1) := by decide +kernel
theorem dL_handOver_12 : decode cL_handOver 12 = .ok (.astore_n 3, 1) := by decide +kernel
theorem dL_handOver_13 : decode cL_handOver 13 = .ok (.ldc 16, 2) := by decide +kernel
theorem dL_handOver_15 : decode cL_handOver 15 = .ok (.ireturn, 1) := by decide +kernel
set_option maxRecDepth 20000 in
theorem ggL_serve_X0_serve : GoodIn wsL_serve wsX0_serve := goodIn_ca (goodIn_r _ [7, 8, 9, 10, 11, 6, 12, 13, 14, 15, 16, 17, 18, 19, 20, 21, 22, 23, 24, 25, 26, 27, 28, 29, 30, 31, 32, 33, 34, 35, 36, 37, 38] (by decide +kernel) (by decide +kernel)) (goodIn_sub (fun _ h => List.mem_cons_of_mem _ (List.mem_append_right _ h)) (by decide +kernel))
set_option maxRecDepth 20000 in
theorem gL_serve_X0_serve : GoodIn wsL_serve (wsV RL 48 RX0 yX0_serve wsX0_serve) := goodIn_app (goodIn_of _ (by decide +kernel)) ggL_serve_X0_serve
theorem dL_serve_0 : decode cL_serve 0 = .ok (.aload_n 0, 1) := by decide +kernel
theorem dL_serve_1 : decode cL_serve 1 = .ok (.iload_n 1, 1) := by decide +kernel
theorem dL_serve_2 : decode cL_serve 2 = .ok (.iload_n 2, 1) := by decide +kernel
theorem dL_serve_3 : decode cL_serve 3 = .ok (.invokevirtual 48, 3) := by decide +kernel
theorem dL_serve_6 : decode cL_serve 6 = .ok (.ireturn, 1) := by decide +kernel
theorem dL_serve_7 : decode cL_serve 7 = .ok (.astore_n 3, 1) := by decide +kernel
theorem dL_serve_8 : decode cL_serve 8 = .ok (.ldc 16, 2) := by decide +kernel
theorem dL_serve_10 : decode cL_serve 10 = .ok (.ireturn, 1) := by decide +kernel
set_option maxRecDepth 20000 in
theorem ggL_tick_X0_tick : GoodIn wsL_tick wsX0_tick := goodIn_ca (goodIn_r _ [7, 8, 9, 10, 6, 11, 12, 13, 14, 15, 16, 17, 18, 19, 20, 21, 22, 23, 24, 25, 26, 27, 28, 29, 30, 31, 32, 33, 34, 35, 36, 37, 38, 39, 40, 41, 42, 43, 44, 45, 46, 47, 48, 49, 50, 51, 52, 53, 54, 55, 56, 57, 58, 59, 60, 61, 62, 63, 64, 65, 66, 67, 68, 69, 70, 71, 72, 73, 74, 75, 76, 77, 78, 79, 80, 81, 82, 83, 84, 85, 86, 87, 88, 89, 90, 91, 92, 93, 94, 95, 96, 97, 98, 99, 100, 101, 102, 103, 104, 105] (by decide +kernel) (by decide +kernel)) (goodIn_sub (fun _ h => List.mem_cons_of_mem _ (List.mem_append_right _ h)) (by decide +kernel))
set_option maxRecDepth 20000 in
theorem gL_tick_X0_tick : GoodIn wsL_tick (wsV RL 51 RX0 yX0_tick wsX0_tick) := goodIn_app (goodIn_of _ (by decide +kernel)) ggL_tick_X0_tick
theorem dL_tick_0 : decode cL_tick 0 = .ok (.aload_n 0, 1) := by decide +kernel
theorem dL_tick_1 : decode cL_tick 1 = .ok (.iload_n 1, 1) := by decide +kernel
theorem dL_tick_2 : decode cL_tick 2 = .ok (.invokevirtual 51, 3) := by decide +kernel
theorem dL_tick_5 : decode cL_tick 5 = .ok (.ireturn, 1) := by decide +kernel
theorem dL_tick_6 : decode cL_tick 6 = .ok (.astore_n 2, 1) := by decide +kernel
theorem dL_tick_7 : decode cL_tick 7 = .ok (.ldc 16, 2) := by decide +kernel
theorem dL_tick_9 : decode cL_tick 9 = .ok (.ireturn, 1) := by decide +kernel
set_option maxRecDepth 20000 in
theorem ggL_timer_X0_timer : GoodIn wsL_timer wsX0_timer := goodIn_ca (goodIn_ca (goodIn_r _ [8, 9, 10, 11, 12, 13, 14, 7, 15, 16, 17, 18, 19, 20, 21, 22, 23, 24, 25, 26, 27, 28, 29, 30, 31, 32, 33, 34, 35, 36, 37, 38, 39, 40, 41] (by decide +kernel) (by decide +kernel)) (goodIn_sub (fun _ h => List.mem_cons_of_mem _ (List.mem_append_left _ (List.mem_append_right _ h))) (by decide +kernel))) (goodIn_sub (fun _ h => List.mem_cons_of_mem _ (List.mem_append_right _ h)) (by decide +kernel))
set_option maxRecDepth 20000 in
theorem gL_timer_X0_timer : GoodIn wsL_timer (wsV RL 54 RX0 yX0_timer wsX0_timer) := goodIn_app (goodIn_of _ (by decide +kernel)) ggL_timer_X0_timer
theorem dL_timer_0 : decode cL_timer 0 = .ok (.aload_n 0, 1) := by decide +kernel
theorem dL_timer_1 : decode cL_timer 1 = .ok (.iload_n 1, 1) := by decide +kernel
theorem dL_timer_2 : decode cL_timer 2 = .ok (.iload_n 2, 1) := by decide +kernel
theorem dL_timer_3 : decode cL_timer 3 = .ok (.invokevirtual 54, 3) := by decide +kernel
theorem dL_timer_6 : decode cL_timer 6 = .ok (.ireturn, 1) := by decide +kernel
theorem dL_timer_7 : decode cL_timer 7 = .ok (.astore_n 3, 1) := by decide +kernel
theorem dL_timer_8 : decode cL_timer 8 = .ok (.ldc 16, 2) := by decide +kernel
theorem dL_timer_10 : decode cL_timer 10 = .ok (.ireturn, 1) := by decide +kernel
theorem dL_timer_11 : decode cL_timer 11 = .ok (.astore_n 3, 1) := by decide +kernel
theorem dL_timer_12 : decode cL_timer 12 = .ok (.iconst (-1), 1) := by decide +kernel
theorem dL_timer_13 : decode cL_timer 13 = .ok (.ireturn, 1) := by decide +kernel
set_option maxRecDepth 20000 in
theorem ggL_act_L_low : GoodIn wsL_act wsL_low := goodIn_r _ [4, 5] (by decide +kernel) (by decide +kernel)
set_option maxRecDepth 20000 in
theorem gL_act_L_low : GoodIn wsL_act (va_wsS RL 57 yL_low wsL_low) := goodIn_app (goodIn_of _ (by decide +kernel)) ggL_act_L_low
set_option maxRecDepth 20000 in
theorem ggL_act_L_setPriority : GoodIn wsL_act wsL_setPriority := goodIn_ca (goodIn_r _ [8, 9, 10, 11, 12, 13, 14, 15, 16, 17, 18, 19, 20, 21, 22, 23, 24, 25, 26, 27, 28, 29, 30, 31, 32, 33, 34, 35, 36, 37, 38, 39, 40, 41, 42, 43, 44, 45, 46, 47, 48, 49, 50, 51, 52, 53, 54, 55, 56, 57, 58, 59, 60, 61, 62, 63, 64, 65, 66, 67, 68, 69, 70, 71, 72, 73, 74, 75, 76, 77, 78, 79, 80, 81, 82, 83, 84, 85, 86, 87, 183, 184, 185, 186, 187, 188, 189, 190, 191, 192, 193, 194, 195, 196, 197, 198, 199, 200] (by decide +kernel) (by decide +kernel)) (goodIn_sub (fun _ h => List.mem_cons_of_mem _ (List.mem_append_left _ (List.mem_append_right _ h))) (by decide +kernel))
set_option maxRecDepth 20000 in
theorem gL_act_L_setPriority : GoodIn wsL_act (va_wsS RL 62 yL_setPriority wsL_setPriority) := goodIn_app (goodIn_of _ (by decide +kernel)) ggL_act_L_setPriority
set_option maxRecDepth 20000 in
theorem ggL_act_L_track : GoodIn wsL_act wsL_track := goodIn_ca (goodIn_r _ [90, 9, 10, 91, 92, 93, 14, 94, 48, 19, 20, 21, 22, 23, 95, 96, 97, 27, 28, 29, 53, 54, 55, 183, 184, 185, 186, 187, 188, 189, 190, 191, 192, 193, 194, 195, 196, 197, 198, 199, 200] (by decide +kernel) (by decide +kernel)) (goodIn_sub (fun _ h => List.mem_cons_of_mem _ (List.mem_append_left _ (List.mem_append_right _ h))) (by decide +kernel))
set_option maxRecDepth 20000 in
theorem gL_act_L_track : GoodIn wsL_act (va_wsS RL 65 yL_track wsL_track) := goodIn_app (goodIn_of _ (by decide +kernel)) ggL_act_L_track
set_option maxRecDepth 20000 in
theorem ggL_act_L_setLink : GoodIn wsL_act wsL_setLink := goodIn_ca (goodIn_r _ [100, 9, 10, 101, 102, 103, 14, 104, 47, 19, 20, 21, 22, 23, 95, 96, 97, 53, 54, 55, 183, 184, 185, 186, 187, 188, 189, 190, 191, 192, 193, 194, 195, 196, 197, 198, 199, 200] (by decide +kernel) (by decide +kernel)) (goodIn_sub (fun _ h => List.mem_cons_of_mem _ (List.mem_append_left _ (List.mem_append_right _ h))) (by decide +kernel))
set_option maxRecDepth 20000 in
theorem gL_act_L_setLink : GoodIn wsL_act (va_wsS RL 67 yL_setLink wsL_setLink) := goodIn_app (goodIn_of _ (by decide +kernel)) ggL_act_L_setLink
set_option maxRecDepth 20000 in
theorem ggL_act_L_setPeriod : GoodIn wsL_act wsL_setPeriod := goodIn_ca (goodIn_r _ [107, 9, 10, 108, 109, 110, 14, 111, 66, 24, 25, 26, 22, 23, 27, 28, 29, 183, 184, 185, 186, 187, 188, 189, 190, 191, 192, 193, 194, 195, 196, 197, 198, 199, 200] (by decide +kernel) (by decide +kernel)) (goodIn_sub (fun _ h => List.mem_cons_of_mem _ (List.mem_append_left _ (List.mem_append_right _ h))) (by decide +kernel))
set_option maxRecDepth 20000 in
theorem gL_act_L_setPeriod : GoodIn wsL_act (va_wsS RL 70 yL_setPeriod wsL_setPeriod) := goodIn_app (goodIn_of _ (by decide +kernel)) ggL_act_L_setPeriod
set_option maxRecDepth 20000 in
theorem ggL_act_L_setPreemption : GoodIn wsL_act wsL_setPreemption := goodIn_ca (goodIn_r _ [114, 9, 10, 115, 116, 117, 14, 118, 82, 83, 24, 25, 26, 22, 23, 27, 28, 29, 183, 184, 185, 186, 187, 188, 189, 190, 191, 192, 193, 194, 195, 196, 197, 198, 199, 200] (by decide +kernel) (by decide +kernel)) (goodIn_sub (fun _ h => List.mem_cons_of_mem _ (List.mem_append_left _ (List.mem_append_right _ h))) (by decide +kernel))
set_option maxRecDepth 20000 in
theorem gL_act_L_setPreemption : GoodIn wsL_act (va_wsS RL 73 yL_setPreemption wsL_setPreemption) := goodIn_app (goodIn_of _ (by decide +kernel)) ggL_act_L_setPreemption
set_option maxRecDepth 20000 in
theorem ggL_act_L_join : GoodIn wsL_act wsL_join := goodIn_ca (goodIn_r _ [121, 9, 10, 122, 123, 124, 14, 125, 22, 23, 38, 19, 20, 21, 183, 184, 185, 186, 187, 188, 189, 190, 191, 192, 193, 194, 195, 196, 197, 198, 199, 200] (by decide +kernel) (by decide +kernel)) (goodIn_sub (fun _ h => List.mem_cons_of_mem _ (List.mem_append_left _ (List.mem_append_right _ h))) (by decide +kernel))
set_option maxRecDepth 20000 in
theorem gL_act_L_join : GoodIn wsL_act (va_wsS RL 76 yL_join wsL_join) := goodIn_app (goodIn_of _ (by decide +kernel)) ggL_act_L_join
set_option maxRecDepth 20000 in
theorem ggL_act_L_die : GoodIn wsL_act wsL_die := goodIn_ca (goodIn_ca (goodIn_r _ [128, 9, 129, 10, 130, 131, 132, 14, 133, 134, 135, 18, 17, 19, 20, 21, 22, 23, 30, 31, 32, 183, 184, 185, 186, 187, 188, 189, 190, 191, 192, 193, 194, 195, 196, 197, 198, 199, 200] (by decide +kernel) (by decide +kernel)) (goodIn_sub (fun _ h => List.mem_cons_of_mem _ (List.mem_append_right _ h)) (by decide +kernel))) (goodIn_sub (fun _ h => List.mem_cons_of_mem _ (List.mem_append_left _ (List.mem_append_right _ h))) (by decide +kernel))
set_option maxRecDepth 20000 in
theorem gL_act_L_die : GoodIn wsL_act (va_wsS RL 78 yL_die wsL_die) := goodIn_app (goodIn_of _ (by decide +kernel)) ggL_act_L_die
set_option maxRecDepth 20000 in
theorem ggL_act_L_live : GoodIn wsL_act wsL_live := goodIn_ca (goodIn_ca (goodIn_r _ [138, 9, 129, 10, 139, 140, 141, 14, 142, 134, 135, 18, 16, 19, 20, 21, 22, 23, 30, 31, 32, 84, 85, 86, 87, 76, 56, 57, 58, 59, 17, 60, 61, 43, 44, 45, 46, 47, 48, 49, 50, 51, 52, 53, 54, 55, 62, 63, 64, 65, 66, 67, 68, 69, 70, 183, 184, 185, 186, 187, 188, 189, 190, 191, 192, 193, 194, 195, 196, 197, 198, 199, 200] (by decide +kernel) (by decide +kernel)) (goodIn_sub (fun _ h => List.mem_cons_of_mem _ (List.mem_append_right _ h)) (by decide +kernel))) (goodIn_sub (fun _ h => List.mem_cons_of_mem _ (List.mem_append_left _ (List.mem_append_right _ h))) (by decide +kernel))
set_option maxRecDepth 20000 in
theorem gL_act_L_live : GoodIn wsL_act (va_wsS RL 81 yL_live wsL_live) := goodIn_app (goodIn_of _ (by decide +kernel)) ggL_act_L_live
set_option maxRecDepth 20000 in
theorem ggL_act_L_handOver : GoodIn wsL_act wsL_handOver := goodIn_ca (goodIn_ca (goodIn_r _ [145, 9, 129, 10, 146, 147, 148, 14, 149, 134, 135, 17, 19, 20, 21, 22, 23, 24, 25, 26, 30, 31, 32, 56, 57, 58, 59, 60, 61, 43, 44, 45, 46, 16, 47, 48, 49, 50, 51, 52, 53, 54, 55, 62, 63, 64, 65, 66, 67, 68, 69, 70, 33, 34, 35, 36, 37, 38, 39, 40, 41, 42, 71, 72, 73, 74, 75, 76, 77, 78, 79, 80, 81, 82, 83, 183, 184, 185, 186, 187, 188, 189, 190, 191, 192, 193, 194, 195, 196, 197, 198, 199, 200] (by decide +kernel) (by decide +kernel)) (goodIn_sub (fun _ h => List.mem_cons_of_mem _ (List.mem_append_right _ h)) (by decide +kernel))) (goodIn_sub (fun _ h => List.mem_cons_of_mem _ (List.mem_append_left _ (List.mem_append_right _ h))) (by decide +kernel))
set_option maxRecDepth 20000 in
theorem gL_act_L_handOver : GoodIn wsL_act (va_wsS RL 83 yL_handOver wsL_handOver) := goodIn_app (goodIn_of _ (by decide +kernel)) ggL_act_L_handOver
set_option maxRecDepth 20000 in
theorem ggL_act_L_serve : GoodIn wsL_act wsL_serve := goodIn_ca (goodIn_r _ [152, 9, 10, 153, 154, 155, 14, 156, 17, 75, 24, 25, 26, 22, 23, 27, 28, 29, 30, 31, 32, 183, 184, 185, 186, 187, 188, 189, 190, 191, 192, 193, 194, 195, 196, 197, 198, 199, 200] (by decide +kernel) (by decide +kernel)) (goodIn_sub (fun _ h => List.mem_cons_of_mem _ (List.mem_append_left _ (List.mem_append_right _ h))) (by decide +kernel))
set_option maxRecDepth 20000 in
theorem gL_act_L_serve : GoodIn wsL_act (va_wsS RL 85 yL_serve wsL_serve) := goodIn_app (goodIn_of _ (by decide +kernel)) ggL_act_L_serve
set_option maxRecDepth 20000 in
theorem ggL_act_L_tick : GoodIn wsL_act wsL_tick := goodIn_ca (goodIn_r _ [159, 9, 10, 160, 161, 162, 14, 163, 164, 27, 28, 29, 22, 23, 165, 166, 167, 168, 17, 61, 66, 30, 31, 32, 43, 44, 45, 46, 16, 47, 48, 49, 50, 51, 52, 53, 54, 55, 33, 34, 35, 36, 37, 38, 39, 40, 41, 42, 56, 57, 58, 59, 60, 62, 63, 64, 65, 67, 68, 69, 70, 71, 72, 73, 74, 75, 76, 77, 78, 79, 80, 81, 82, 83, 169, 170, 171, 172, 173, 174, 175, 176, 177, 178, 179, 180, 181, 182, 183, 184, 185, 186, 187, 188, 189, 190, 191, 192, 193, 194, 195, 196, 197, 198, 199, 200] (by decide +kernel) (by decide +kernel)) (goodIn_sub (fun _ h => List.mem_cons_of_mem _ (List.mem_append_left _ (List.mem_append_right _ h))) (by decide +kernel))
set_option maxRecDepth 20000 in
theorem gL_act_L_tick : GoodIn wsL_act (va_wsS RL 87 yL_tick wsL_tick) := goodIn_app (goodIn_of _ (by decide +kernel)) ggL_act_L_tick
