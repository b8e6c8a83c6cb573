theorem dL_setPriority_0 : decode cL_setPriority 0 = .ok (.aload 4, 2) := by decide +kernel
theorem dL_setPriority_2 : decode cL_setPriority 2 = .ok (.iconst 0, 1) := by decide +kernel
theorem dL_setPriority_3 : decode cL_setPriority 3 = .ok (.aload_n 0, 1) := by decide +kernel
theorem dL_setPriority_4 : decode cL_setPriority 4 = .ok (.iload_n 1, 1) := by decide +kernel
theorem dL_setPriority_5 : decode cL_setPriority 5 = .ok (.iload_n 2, 1) := by decide +kernel
theorem dL_setPriority_6 : decode cL_setPriority 6 = .ok (.iload_n 3, 1) := by decide +kernel
theorem dL_setPriority_7 : decode cL_setPriority 7 = .ok (.invokevirtual 7, 3) := by decide +kernel
theorem dL_setPriority_10 : decode cL_setPriority 10 = .ok (.i2l, 1) := by decide +kernel
theorem dL_setPriority_11 : decode cL_setPriority 11 = .ok (.lastore, 1) := by decide +kernel
theorem dL_setPriority_12 : decode cL_setPriority 12 = .ok (.goto 7, 3) := by decide +kernel
theorem dL_setPriority_15 : decode cL_setPriority 15 = .ok (.astore 5, 2) := by decide +kernel
theorem dL_setPriority_17 : decode cL_setPriority 17 = .ok (.iconst 1, 1) := by decide +kernel
theorem dL_setPriority_18 : decode cL_setPriority 18 = .ok (.ireturn, 1) := by decide +kernel
theorem dL_setPriority_19 : decode cL_setPriority 19 = .ok (.iconst 0, 1) := by decide +kernel
theorem dL_setPriority_20 : decode cL_setPriority 20 = .ok (.ireturn, 1) := by decide +kernel
set_option maxRecDepth 20000 in
theorem ggL_track_X0_track : GoodIn wsL_track wsX0_track := goodIn_ca (goodIn_r _ [6, 7, 8, 9, 5, 10, 11, 12, 13, 14, 15, 16, 17, 18, 19, 20, 21, 22, 23, 24, 25, 26, 27, 28, 29, 30, 31, 32, 33, 34, 35, 36, 37, 38, 39] (by decide +kernel) (by decide +kernel)) (goodIn_sub (fun _ h => List.mem_cons_of_mem _ (List.mem_append_right _ h)) (by decide +kernel))
set_option maxRecDepth 20000 in
theorem gL_track_X0_track : GoodIn wsL_track (wsV RL 15 RX0 yX0_track wsX0_track) := goodIn_app (goodIn_of _ (by decide +kernel)) ggL_track_X0_track
theorem dL_track_0 : decode cL_track 0 = .ok (.aload 4, 2) := by decide +kernel
theorem dL_track_2 : decode cL_track 2 = .ok (.iconst 0, 1) := by decide +kernel
theorem dL_track_3 : decode cL_track 3 = .ok (.aload_n 0, 1) := by decide +kernel
theorem dL_track_4 : decode cL_track 4 = .ok (.iload_n 1, 1) := by decide +kernel
theorem dL_track_5 : decode cL_track 5 = .ok (.iload_n 2, 1) := by decide +kernel
theorem dL_track_6 : decode cL_track 6 = .ok (.iload_n 3, 1) := by decide +kernel
theorem dL_track_7 : decode cL_track 7 = .ok (.invokevirtual 15, 3) := by decide +kernel
theorem dL_track_10 : decode cL_track 10 = .ok (.i2l, 1) := by decide +kernel
theorem dL_track_11 : decode cL_track 11 = .ok (.lastore, 1) := by decide +kernel
theorem dL_track_12 : decode cL_track 12 = .ok (.goto 7, 3) := by decide +kernel
theorem dL_track_15 : decode cL_track 15 = .ok (.astore 5, 2) := by decide +kernel
theorem dL_track_17 : decode cL_track 17 = .ok (.iconst 1, 1) := by decide +kernel
theorem dL_track_18 : decode cL_track 18 = .ok (.ireturn, 1) := by decide +kernel
theorem dL_track_19 : decode cL_track 19 = .ok (.iconst 0, 1) := by decide +kernel
theorem dL_track_20 : decode cL_track 20 = .ok (.ireturn, 1) := by decide +kernel
set_option maxRecDepth 20000 in
theorem ggL_setLink_X0_setLink : GoodIn wsL_setLink wsX0_setLink := goodIn_ca (goodIn_r _ [6, 7, 8, 9, 5, 10, 11, 12, 13, 14, 15, 16, 17, 18, 19, 20, 21, 22, 23, 24, 25, 26, 27, 28, 29, 30, 31, 32, 33, 34, 35, 36] (by decide +kernel) (by decide +kernel)) (goodIn_sub (fun _ h => List.mem_cons_of_mem _ (List.mem_append_right _ h)) (by decide +kernel))
set_option maxRecDepth 20000 in
theorem gL_setLink_X0_setLink : GoodIn wsL_setLink (wsV RL 18 RX0 yX0_setLink wsX0_setLink) := goodIn_app (goodIn_of _ (by decide +kernel)) ggL_setLink_X0_setLink
theorem dL_setLink_0 : decode cL_setLink 0 = .ok (.aload 4, 2) := by decide +kernel
theorem dL_setLink_2 : decode cL_setLink 2 = .ok (.iconst 0, 1) := by decide +kernel
theorem dL_setLink_3 : decode cL_setLink 3 = .ok (.aload_n 0, 1) := by decide +kernel
theorem dL_setLink_4 : decode cL_setLink 4 = .ok (.iload_n 1, 1) := by decide +kernel
theorem dL_setLink_5 : decode cL_setLink 5 = .ok (.iload_n 2, 1) := by decide +kernel
theorem dL_setLink_6 : decode cL_setLink 6 = .ok (.iload_n 3, 1) := by decide +kernel
theorem dL_setLink_7 : decode cL_setLink 7 = .ok (.invokevirtual 18, 3) := by decide +kernel
theorem dL_setLink_10 : decode cL_setLink 10 = .ok (.ifCond .eq 7, 3) := by decide +kernel
theorem dL_setLink_13 : decode cL_setLink 13 = .ok (.lconst 1, 1) := by decide +kernel
theorem dL_setLink_14 : decode cL_setLink 14 = .ok (.goto 4, 3) := by decide +kernel
theorem dL_setLink_17 : decode cL_setLink 17 = .ok (.lconst 0, 1) := by decide +kernel
theorem dL_setLink_18 : decode cL_setLink 18 = .ok (.lastore, 1) := by decide +kernel
theorem dL_setLink_19 : decode cL_setLink 19 = .ok (.goto 7, 3) := by decide +kernel
theorem dL_setLink_22 : decode cL_setLink 22 = .ok (.astore 5, 2) := by decide +kernel
theorem dL_setLink_24 : decode cL_setLink 24 = .ok (.iconst 1, 1) := by decide +kernel
theorem dL_setLink_25 : decode cL_setLink 25 = .ok (.ireturn, 1) := by decide +kernel
theorem dL_setLink_26 : decode cL_setLink 26 = .ok (.iconst 0, 1) := by decide +kernel
theorem dL_setLink_27 : decode cL_setLink 27 = .ok (.ireturn, 1) := by decide +kernel
set_option maxRecDepth 20000 in
theorem ggL_setPeriod_X0_setPeriod : GoodIn wsL_setPeriod wsX0_setPeriod := goodIn_ca (goodIn_r _ [6, 7, 8, 9, 5, 10, 11, 12, 13, 14, 15, 16, 17, 18, 19, 20, 21, 22, 23, 24, 25, 26, 27, 28, 29, 30, 31, 32, 33] (by decide +kernel) (by decide +kernel)) (goodIn_sub (fun _ h => List.mem_cons_of_mem _ (List.mem_append_right _ h)) (by decide +kernel))
set_option maxRecDepth 20000 in
theorem gL_setPeriod_X0_setPeriod : GoodIn wsL_setPeriod (wsV RL 22 RX0 yX0_setPeriod wsX0_setPeriod) := goodIn_app (goodIn_of _ (by decide +kernel)) ggL_setPeriod_X0_setPeriod
theorem dL_setPeriod_0 : decode cL_setPeriod 0 = .ok (.aload_n 3, 1) := by decide +kernel
theorem dL_setPeriod_1 : decode cL_setPeriod 1 = .ok (.iconst 0, 1) := by decide +kernel
theorem dL_setPeriod_2 : decode cL_setPeriod 2 = .ok (.aload_n 0, 1) := by decide +kernel
theorem dL_setPeriod_3 : decode cL_setPeriod 3 = .ok (.iload_n 1, 1) := by decide +kernel
theorem dL_setPeriod_4 : decode cL_setPeriod 4 = .ok (.iload_n 2, 1) := by decide +kernel
theorem dL_setPeriod_5 : decode cL_setPeriod 5 = .ok (.invokevirtual 22, 3) := by decide +kernel
theorem dL_setPeriod_8 : decode cL_setPeriod 8 = .ok (.i2l, 1) := by decide +kernel
theorem dL_setPeriod_9 : decode cL_setPeriod 9 = .ok (.lastore, 1) := by decide +kernel
theorem dL_setPeriod_10 : decode cL_setPeriod 10 = .ok (.goto 7, 3) := by decide +kernel
theorem dL_setPeriod_13 : decode cL_setPeriod 13 = .ok (.astore 4, 2) := by decide +kernel
theorem dL_setPeriod_15 : decode cL_setPeriod 15 = .ok (.iconst 1, 1) := by decide +kernel
theorem dL_setPeriod_16 : decode cL_setPeriod 16 = .ok (.ireturn, 1) := by decide +kernel
theorem dL_setPeriod_17 : decode cL_setPeriod 17 = .ok (.iconst 0, 1) := by decide +kernel
theorem dL_setPeriod_18 : decode cL_setPeriod 18 = .ok (.ireturn, 1) := by decide +kernel
set_option maxRecDepth 20000 in
theorem ggL_setPreemption_X0_setPreemption : GoodIn wsL_setPreemption wsX0_setPreemption := goodIn_ca (goodIn_r _ [6, 7, 8, 9, 10, 5, 11, 12, 13, 14, 15, 16, 17, 18, 19, 20, 21, 22, 23, 24, 25, 26, 27, 28, 29, 30, 31, 32, 33, 34] (by decide +kernel) (by decide +kernel)) (goodIn_sub (fun _ h => List.mem_cons_of_mem _ (List.mem_append_right _ h)) (by decide +kernel))
set_option maxRecDepth 20000 in
theorem gL_setPreemption_X0_setPreemption : GoodIn wsL_setPreemption (wsV RL 26 RX0 yX0_setPreemption wsX0_setPreemption) := goodIn_app (goodIn_of _ (by decide +kernel)) ggL_setPreemption_X0_setPreemption
theorem dL_setPreemption_0 : decode cL_setPreemption 0 = .ok (.aload_n 0, 1) := by decide +kernel
theorem dL_setPreemption_1 : decode cL_setPreemption 1 = .ok (.iload_n 1, 1) := by decide +kernel
theorem dL_setPreemption_2 : decode cL_setPreemption 2 = .ok (.iload_n 2, 1) := by decide +kernel
theorem dL_setPreemption_3 : decode cL_setPreemption 3 = .ok (.iload_n 3, 1) := by decide +kernel
theorem dL_setPreemption_4 : decode cL_setPreemption 4 = .ok (.invokevirtual 26, 3) := by decide +kernel
theorem dL_setPreemption_7 : decode cL_setPreemption 7 = .ok (.goto 7, 3) := by decide +kernel
theorem dL_setPreemption_10 : decode cL_setPreemption 10 = .ok (.astore 4, 2) := by decide +kernel
theorem dL_setPreemption_12 : decode cL_setPreemption 12 = .ok (.iconst 1, 1) := by decide +kernel
theorem dL_setPreemption_13 : decode cL_setPreemption 13 = .ok (.ireturn, 1) := by decide +kernel
theorem dL_setPreemption_14 : decode cL_setPreemption 14 = .ok (.iconst 0, 1) := by decide +kernel
theorem dL_setPreemption_15 : decode cL_setPreemption 15 = .ok (.ireturn, 1) := by decide +kernel
set_option maxRecDepth 20000 in
theorem ggL_join_X0_join : GoodIn wsL_join wsX0_join := goodIn_ca (goodIn_r _ [6, 7, 8, 9, 10, 11, 5, 12, 13, 14, 15, 16, 17, 18, 19, 20, 21, 22, 23, 24, 25, 26, 27, 28, 29, 30] (by decide +kernel) (by decide +kernel)) (goodIn_sub (fun _ h => List.mem_cons_of_mem _ (List.mem_append_right _ h)) (by decide +kernel))
set_option maxRecDepth 20000 in
theorem gL_join_X0_join : GoodIn wsL_join (wsV RL 30 RX0 yX0_join wsX0_join) := goodIn_app (goodIn_of _ (by decide +kernel)) ggL_join_X0_join
theorem dL_join_0 : decode cL_join 0 = .ok (.aload 4, 2) := by decide +kernel
theorem dL_join_2 : decode cL_join 2 = .ok (.iconst 0, 1) := by decide +kernel
theorem dL_join_3 : decode cL_join 3 = .ok (.aload_n 0, 1) := by decide +kernel
theorem dL_join_4 : decode cL_join 4 = .ok (.iload_n 1, 1) := by decide +kernel
theorem dL_join_5 : decode cL_join 5 = .ok (.iload_n 2, 1) := by decide +kernel
theorem dL_join_6 : decode cL_join 6 = .ok (.iload_n 3, 1) := by decide +kernel
theorem dL_join_7 : decode cL_join 7 = .ok (.invokevirtual 30, 3) := by decide +kernel
theorem dL_join_10 : decode cL_join 10 = .ok (.ifCond .eq 7, 3) := by decide +kernel
theorem dL_join_13 : decode cL_join 13 = .ok (.lconst 1, 1) := by decide +kernel
theorem dL_join_14 : decode cL_join 14 = .ok (.goto 4, 3) := by decide +kernel
theorem dL_join_17 : decode cL_join 17 = .ok (.lconst 0, 1) := by decide +kernel
theorem dL_join_18 : decode cL_join 18 = .ok (.lastore, 1) := by decide +kernel
theorem dL_join_19 : decode cL_join 19 = .ok (.goto 7, 3) := by decide +kernel
theorem dL_join_22 : decode cL_join 22 = .ok (.astore 5, 2) := by decide +kernel
theorem dL_join_24 : decode cL_join 24 = .ok (.iconst 1, 1) := by decide +kernel
theorem dL_join_25 : decode cL_join 25 = .ok (.ireturn, 1) := by decide +kernel
theorem dL_join_26 : decode cL_join 26 = .ok (.iconst 0, 1) := by decide +kernel
theorem dL_join_27 : decode cL_join 27 = .ok (.ireturn, 1) := by decide +kernel
set_option maxRecDepth 20000 in
theorem ggL_die_X0_die : GoodIn wsL_die wsX0_die := goodIn_ca (goodIn_ca (goodIn_r _ [7, 8, 9, 10, 11, 12, 13, 6, 14, 15, 16, 17, 18, 19, 20, 21, 22, 23, 24, 25, 26, 27, 28, 29, 30, 31, 32, 33, 34, 35, 36, 37] (by decide +kernel) (by decide +kernel)) (goodIn_sub (fun _ h => List.mem_cons_of_mem _ (List.mem_append_left _ (List.mem_append_right _ h))) (by decide +kernel))) (goodIn_sub (fun _ h => List.mem_cons_of_mem _ (List.mem_append_right _ h)) (by decide +kernel))
set_option maxRecDepth 20000 in
theorem gL_die_X0_die : GoodIn wsL_die (wsV RL 33 RX0 yX0_die wsX0_die) := goodIn_app (goodIn_of _ (by decide +kernel)) ggL_die_X0_die
theorem dL_die_0 : decode cL_die 0 = .ok (.aload_n 2, 1) := by decide +kernel
theorem dL_die_1 : decode cL_die 1 = .ok (.iconst 0, 1) := by decide +kernel
theorem dL_die_2 : decode cL_die 2 = .ok (.aload_n 0, 1) := by decide +kernel
theorem dL_die_3 : decode cL_die 3 = .ok (.iload_n 1, 1) := by decide +kernel
theorem dL_die_4 : decode cL_die 4 = .ok (.invokevirtual 33, 3) := by decide +kernel
theorem dL_die_7 : decode cL_die 7 = .ok (.i2l, 1) := by decide +kernel
theorem dL_die_8 : decode cL_die 8 = .ok (.lastore, 1) := by decide +kernel
theorem dL_die_9 : decode cL_die 9 = .ok (.goto 9, 3) := by decide +kernel
theorem dL_die_12 : decode cL_die 12 = .ok (.astore_n 3, 1) := by decide +kernel
theorem dL_die_13 : decode cL_die 13 = .ok (.iconst 1, 1) := by decide +kernel
theorem dL_die_14 : decode cL_die 14 = .ok (.ireturn, 1) := by decide +kernel
theorem dL_die_15 : decode cL_die 15 = .ok (.astore_n 3, 1) := by decide +kernel
theorem dL_die_16 : decode cL_die 16 = .ok (.iconst 2, 1) := by decide +kernel
theorem dL_die_17 : decode cL_die 17 = .ok (.ireturn, 1) := by decide +kernel
theorem dL_die_18 : decode cL_die 18 = .ok (.iconst 0, 1) := by decide +kernel
theorem dL_die_19 : decode cL_die 19 = .ok (.ireturn, 1) := by decide +kernel
set_option maxRecDepth 20000 in
theorem ggL_live_X0_live : GoodIn wsL_live wsX0_live := goodIn_ca (goodIn_ca (goodIn_r _ [7, 8, 9, 10, 11, 12, 13, 6, 14, 15, 16, 17, 18, 19, 20, 21, 22, 23, 24, 25, 26, 27, 28, 29, 30, 31, 32, 33, 34, 35, 36, 37, 38, 39, 40, 41, 42, 43, 44, 45, 46, 47, 48, 49, 50, 51, 52, 53, 54, 55, 56, 57, 58, 59, 60, 61, 62, 63, 64, 65, 66, 67, 68, 69, 70, 71] (by decide +kernel) (by decide +kernel)) (goodIn_sub (fun _ h => List.mem_cons_of_mem _ (List.mem_append_left _ (List.mem_append_right _ h))) (by decide +kernel))) (goodIn_sub (fun _ h => List.mem_cons_of_mem _ (List.mem_append_right _ h)) (by decide +kernel))
set_option maxRecDepth 20000 in
theorem gL_live_X0_live : GoodIn wsL_live (wsV RL 39 RX0 yX0_live wsX0_live) := goodIn_app (goodIn_of _ (by decide +kernel)) ggL_live_X0_live
theorem dL_live_0 : decode cL_live 0 = .ok (.aload_n 2, 1) := by decide +kernel
theorem dL_live_1 : decode cL_live 1 = .ok (.iconst 0, 1) := by decide +kernel
theorem dL_live_2 : decode cL_live 2 = .ok (.aload_n 0, 1) := by decide +kernel
theorem dL_live_3 : decode cL_live 3 = .ok (.iload_n 1, 1) := by decide +kernel
theorem dL_live_4 : decode cL_live 4 = .ok (.invokevirtual 39, 3) := by decide +kernel
theorem dL_live_7 : decode cL_live 7 = .ok (.i2l, 1) := by decide +kernel
theorem dL_live_8 : decode cL_live 8 = .ok (.lastore, 1) := by decide +kernel
theorem dL_live_9 : decode cL_live 9 = .ok (.goto 9, 3) := by decide +kernel
theorem dL_live_12 : decode cL_live 12 = .ok (.astore_n 3, 1) := by decide +kernel
theorem dL_live_13 : decode cL_live 13 = .ok (.iconst 1, 1) := by decide +kernel
theorem dL_live_14 : decode cL_live 14 = .ok (.ireturn, 1) := by decide +kernel
theorem dL_live_15 : decode cL_live 15 = .ok (.astore_n 3, 1) := by decide +kernel
theorem dL_live_16 : decode cL_live 16 = .ok (.iconst 2, 1) := by decide +kernel
theorem dL_live_17 : decode cL_live 17 = .ok (.ireturn, 1) := by decide +kernel
theorem dL_live_18 : decode cL_live 18 = .ok (.iconst 0, 1) := by decide +kernel
theorem dL_live_19 : decode cL_live 19 = .ok (.ireturn, 1) := by decide +kernel
set_option maxRecDepth 20000 in
theorem ggL_handOver_X0_handOver : GoodIn wsL_handOver wsX0_handOver := goodIn_ca (goodIn_ca (goodIn_r _ [7, 8, 9, 10, 11, 12, 6, 13, 14, 15, 16, 17, 18, 19, 20, 21, 22, 23, 24, 25, 26, 27, 28, 29, 30, 31, 32, 33, 34, 35, 36, 37, 38, 39, 40, 41, 42, 43, 44, 45, 46, 47, 48, 49, 50, 51, 52, 53, 54, 55, 56, 57, 58, 59, 60, 61, 62, 63, 64, 65, 66, 67, 68, 69, 70, 71, 72, 73, 74, 75, 76, 77, 78, 79, 80, 81, 82, 83, 84, 85, 86, 87, 88, 89, 90, 91] (by decide +kernel) (by decide +kernel)) (goodIn_sub (fun _ h => List.mem_cons_of_mem _ (List.mem_append_left _ (List.mem_append_right _ h))) (by decide +kernel))) (goodIn_sub (fun _ h => List.mem_cons_of_mem _ (List.mem_append_right _ h)) (by decide +kernel))
set_option maxRecDepth 20000 in
theorem gL_handOver_X0_handOver : GoodIn wsL_handOver (wsV RL 42 RX0 yX0_handOver wsX0_handOver) := goodIn_app (goodIn_of _ (by decide +kernel)) ggL_handOver_X0_handOver
theorem dL_handOver_0 : decode cL_handOver 0 = .ok (.aload_n 0, 1) := by decide +kernel
theorem dL_handOver_1 : decode cL_handOver 1 = .ok (.iload_n 1, 1) := by decide +kernel
theorem dL_handOver_2 : decode cL_handOver 2 = .ok (.iload_n 2, 1) := by decide +kernel
theorem dL_handOver_3 : decode cL_handOver 3 = .ok (.invokevirtual 42, 3) := by decide +kernel
theorem dL_handOver_6 : decode cL_handOver 6 = .ok (.goto 9, 3) := by decide +kernel
theorem dL_handOver_9 : decode cL_handOver 9 = .ok (.astore_n 3, 1) := by decide +kernel
theorem dL_handOver_10 : decode cL_handOver 10 = .ok (.iconst 1, 1) := by decide +kernel
theorem dL_handOver_11 : decode cL_handOver 11 = .ok (.ireturn, 1) := by decide +kernel
theorem dL_handOver_12 : decode cL_handOver 12 = .ok (.astore_n 3, 1) := by decide +kernel
theorem dL_handOver_13 : decode cL_handOver 13 = .ok (.iconst 2, 1) := by decide +kernel
theorem dL_handOver_14 : decode cL_handOver 14 = .ok (.ireturn, 1) := by decide +kernel
theorem dL_handOver_15 : decode cL_handOver 15 = .ok (.iconst 0, 1) := by decide +kernel
theorem dL_handOver_16 : decode cL_handOver 16 = .ok (.ireturn, 1) := by decide +kernel
set_option maxRecDepth 20000 in
theorem ggL_serve_X0_serve : GoodIn wsL_serve wsX0_serve := goodIn_ca (goodIn_r _ [6, 7, 8, 9, 10, 5, 11, 12, 13, 14, 15, 16, 17, 18, 19, 20, 21, 22, 23, 24, 25, 26, 27, 28, 29, 30, 31, 32, 33, 34, 35, 36, 37] (by decide +kernel) (by decide +kernel)) (goodIn_sub (fun _ h => List.mem_cons_of_mem _ (List.mem_append_right _ h)) (by decide +kernel))
set_option maxRecDepth 20000 in
theorem gL_serve_X0_serve : GoodIn wsL_serve (wsV RL 46 RX0 yX0_serve wsX0_serve) := goodIn_app (goodIn_of _ (by decide +kernel)) ggL_serve_X0_serve
theorem dL_serve_0 : decode cL_serve 0 = .ok (.aload_n 3, 1) := by decide +kernel
theorem dL_serve_1 : decode cL_serve 1 = .ok (.iconst 0, 1) := by decide +kernel
theorem dL_serve_2 : decode cL_serve 2 = .ok (.aload_n 0, 1) := by decide +kernel
theorem dL_serve_3 : decode cL_serve 3 = .ok (.iload_n 1, 1) := by decide +kernel
theorem dL_serve_4 : decode cL_serve 4 = .ok (.iload_n 2, 1) := by decide +kernel
theorem dL_serve_5 : decode cL_serve 5 = .ok (.invokevirtual 46, 3) := by decide +kernel
theorem dL_serve_8 : decode cL_serve 8 = .ok (.i2l, 1) := by decide +kernel
theorem dL_serve_9 : decode cL_serve 9 = .ok (.lastore, 1) := by decide +kernel
theorem dL_serve_10 : decode cL_serve 10 = .ok (.goto 7, 3) := by decide +kernel
theorem dL_serve_13 : decode cL_serve 13 = .ok (.astore 4, 2) := by decide +kernel
theorem dL_serve_15 : decode cL_serve 15 = .ok (.iconst 1, 1) := by decide +kernel
theorem dL_serve_16 : decode cL_serve 16 = .ok (.ireturn, 1) := by decide +kernel
theorem dL_serve_17 : decode cL_serve 17 = .ok (.iconst 0, 1) := by decide +kernel
theorem dL_serve_18 : decode cL_serve 18 = .ok (.ireturn, 1) := by decide +kernel
set_option maxRecDepth 20000 in
theorem ggL_tick_X0_tick : GoodIn wsL_tick wsX0_tick := goodIn_ca (goodIn_r _ [6, 7, 8, 9, 5, 10, 11, 12, 13, 14, 15, 16, 17, 18, 19, 20, 21, 22, 23, 24, 25, 26, 27, 28, 29, 30, 31, 32, 33, 34, 35, 36, 37, 38, 39, 40, 41, 42, 43, 44, 45, 46, 47, 48, 49, 50, 51, 52, 53, 54, 55, 56, 57, 58, 59, 60, 61, 62, 63, 64, 65, 66, 67, 68, 69, 70, 71, 72, 73, 74, 75, 76, 77, 78, 79, 80, 81, 82, 83, 84, 85, 86, 87, 88, 89, 90, 91, 92, 93, 94, 95, 96, 97, 98, 99, 100, 101, 102, 103, 104] (by decide +kernel) (by decide +kernel)) (goodIn_sub (fun _ h => List.mem_cons_of_mem _ (List.mem_append_right _ h)) (by decide +kernel))
set_option maxRecDepth 20000 in
theorem gL_tick_X0_tick : GoodIn wsL_tick (wsV RL 49 RX0 yX0_tick wsX0_tick) := goodIn_app (goodIn_of _ (by decide +kernel)) ggL_tick_X0_tick
theorem dL_tick_0 : decode cL_tick 0 = .ok (.aload_n 2, 1) := by decide +kernel
theorem dL_tick_1 : decode cL_tick 1 = .ok (.iconst 0, 1) := by decide +kernel
theorem dL_tick_2 : decode cL_tick 2 = .ok (.aload_n 0, 1) := by decide +kernel
theorem dL_tick_3 : decode cL_tick 3 = .ok (.iload_n 1, 1) := by decide +kernel
theorem dL_tick_4 : decode cL_tick 4 = .ok (.invokevirtual 49, 3) := by decide +kernel
theorem dL_tick_7 : decode cL_tick 7 = .ok (.i2l, 1) := by decide +kernel
theorem dL_tick_8 : decode cL_tick 8 = .ok (.lastore, 1) := by decide +kernel
theorem dL_tick_9 : decode cL_tick 9 = .ok (.goto 6, 3) := by decide +kernel
theorem dL_tick_12 : decode cL_tick 12 = .ok (.astore_n 3, 1) := by decide +kernel
theorem dL_tick_13 : decode cL_tick 13 = .ok (.iconst 1, 1) := by decide +kernel
theorem dL_tick_14 : decode cL_tick 14 = .ok (.ireturn, 1) := by decide +kernel
theorem dL_tick_15 : decode cL_tick 15 = .ok (.iconst 0, 1) := by decide +kernel
theorem dL_tick_16 : decode cL_tick 16 = .ok (.ireturn, 1) := by decide +kernel
set_option maxRecDepth 20000 in
theorem ggL_state_X0_state : GoodIn wsL_state wsX0_state := goodIn_ca (goodIn_r _ [6, 7, 8, 9, 5, 10, 11, 12, 13, 14, 15, 16, 17, 18, 19, 20, 21, 22, 23, 24, 25, 26, 27, 28, 29, 30, 31, 32, 33, 34, 35, 36] (by decide +kernel) (by decide +kernel)) (goodIn_sub (fun _ h => List.mem_cons_of_mem _ (List.mem_append_right _ h)) (by decide +kernel))
set_option maxRecDepth 20000 in
theorem gL_state_X0_state : GoodIn wsL_state (wsV RL 52 RX0 yX0_state wsX0_state) := goodIn_app (goodIn_of _ (by decide +kernel)) ggL_state_X0_state
theorem dL_state_0 : decode cL_state 0 = .ok (.aload_n 3, 1) := by decide +kernel
theorem dL_state_1 : decode cL_state 1 = .ok (.iconst 0, 1) := by decide +kernel
theorem dL_state_2 : decode cL_state 2 = .ok (.aload_n 0, 1) := by decide +kernel
theorem dL_state_3 : decode cL_state 3 = .ok (.iload_n 1, 1) := by decide +kernel
theorem dL_state_4 : decode cL_state 4 = .ok (.iload_n 2, 1) := by decide +kernel
theorem dL_state_5 : decode cL_state 5 = .ok (.invokevirtual 52, 3) := by decide +kernel
theorem dL_state_8 : decode cL_state 8 = .ok (.i2l, 1) := by decide +kernel
theorem dL_state_9 : decode cL_state 9 = .ok (.lastore, 1) := by decide +kernel
theorem dL_state_10 : decode cL_state 10 = .ok (.goto 7, 3) := by decide +kernel
theorem dL_state_13 : decode cL_state 13 = .ok (.astore 4, 2) := by decide +kernel
theorem dL_state_15 : decode cL_state 15 = .ok (.iconst 1, 1) := by decide +kernel
theorem dL_state_16 : decode cL_state 16 = .ok (.ireturn, 1) := by decide +kernel
theorem dL_state_17 : decode cL_state 17 = .ok (.iconst 0, 1) := by decide +kernel
theorem dL_state_18 : decode cL_state 18 = .ok (.ireturn, 1) := by decide +kernel
set_option maxRecDepth 20000 in
theorem ggL_priority_X0_priority : GoodIn wsL_priority wsX0_priority := goodIn_ca (goodIn_r _ [6, 7, 8, 9, 5, 10, 11, 12, 13, 14, 15, 16, 17, 18, 19, 20, 21, 22, 23, 24, 25, 26, 27, 28, 29, 30, 31, 32, 33, 34, 35, 36, 37, 38, 39, 40, 41, 42, 43, 44, 45, 46, 47, 48, 49, 50] (by decide +kernel) (by decide +kernel)) (goodIn_sub (fun _ h => List.mem_cons_of_mem _ (List.mem_append_right _ h)) (by decide +kernel))
set_option maxRecDepth 20000 in
theorem gL_priority_X0_priority : GoodIn wsL_priority (wsV RL 55 RX0 yX0_priority wsX0_priority) := goodIn_app (goodIn_of _ (by decide +kernel)) ggL_priority_X0_priority
theorem dL_priority_0 : decode cL_priority 0 = .ok (.aload_n 3, 1) := by decide +kernel
theorem dL_priority_1 : decode cL_priority 1 = .ok (.iconst 0, 1) := by decide +kernel
theorem dL_priority_2 : decode cL_priority 2 = .ok (.aload_n 0, 1) := by decide +kernel
theorem dL_priority_3 : decode cL_priority 3 = .ok (.iload_n 1, 1) := by decide +kernel
theorem dL_priority_4 : decode cL_priority 4 = .ok (.iload_n 2, 1) := by decide +kernel
theorem dL_priority_5 : decode cL_priority 5 = .ok (.invokevirtual 55, 3) := by decide +kernel
theorem dL_priority_8 : decode cL_priority 8 = .ok (.i2l, 1) := by decide +kernel
theorem dL_priority_9 : decode cL_priority 9 = .ok (.lastore, 1) := by decide +kernel
theorem dL_priority_10 : decode cL_priority 10 = .ok (.goto 7, 3) := by decide +kernel
theorem dL_priority_13 : decode cL_priority 13 = .ok (.astore 4, 2) := by decide +kernel
theorem dL_priority_15 : decode cL_priority 15 = .ok (.iconst 1, 1) := by decide +kernel
theorem dL_priority_16 : decode cL_priority 16 = .ok (.ireturn, 1) := by decide +kernel
theorem dL_priority_17 : decode cL_priority 17 = .ok (.iconst 0, 1) := by decide +kernel
theorem dL_priority_18 : decode cL_priority 18 = .ok (.ireturn, 1) := by decide +kernel
set_option maxRecDepth 20000 in
theorem ggL_timer_X0_timer : GoodIn wsL_timer wsX0_timer := goodIn_ca (goodIn_ca (goodIn_r _ [7, 8, 9, 10, 11, 12, 13, 6, 14, 15, 16, 17, 18, 19, 20, 21, 22, 23, 24, 25, 26, 27, 28, 29, 30, 31, 32, 33, 34, 35, 36, 37, 38, 39, 40] (by decide +kernel) (by decide +kernel)) (goodIn_sub (fun _ h => List.mem_cons_of_mem _ (List.mem_append_left _ (List.mem_append_right _ h))) (by decide +kernel))) (goodIn_sub (fun _ h => List.mem_cons_of_mem _ (List.mem_append_right _ h)) (by decide +kernel))
set_option maxRecDepth 20000 in
theorem gL_timer_X0_timer : GoodIn wsL_timer (wsV RL 58 RX0 yX0_timer wsX0_timer) := goodIn_app (goodIn_of _ (by decide +kernel)) ggL_timer_X0_timer
theorem dL_timer_0 : decode cL_timer 0 = .ok (.aload_n 3, 1) := by decide +kernel
theorem dL_timer_1 : decode cL_timer 1 = .ok (.iconst 0, 1) := by decide +kernel
theorem dL_timer_2 : decode cL_timer 2 = .ok (.aload_n 0, 1) := by decide +kernel
theorem dL_timer_3 : decode cL_timer 3 = .ok (.iload_n 1, 1) := by decide +kernel
theorem dL_timer_4 : decode cL_timer 4 = .ok (.iload_n 2, 1) := by decide +kernel
theorem dL_timer_5 : decode cL_timer 5 = .ok (.invokevirtual 58, 3) := by decide +kernel
theorem dL_timer_8 : decode cL_timer 8 = .ok (.i2l, 1) := by decide +kernel
theorem dL_timer_9 : decode cL_timer 9 = .ok (.lastore, 1) := by decide +kernel
theorem dL_timer_10 : decode cL_timer 10 = .ok (.goto 11, 3) := by decide +kernel
theorem dL_timer_13 : decode cL_timer 13 = .ok (.astore 4, 2) := by decide +kernel
theorem dL_timer_15 : decode cL_timer 15 = .ok (.iconst 1, 1) := by decide +kernel
theorem dL_timer_16 : decode cL_timer 16 = .ok (.ireturn, 1) := by decide +kernel
theorem dL_timer_17 : decode cL_timer 17 = .ok (.astore 4, 2) := by decide +kernel
theorem dL_timer_19 : decode cL_timer 19 = .ok (.iconst 2, 1) := by decide +kernel
theorem dL_timer_20 : decode cL_timer 20 = .ok (.ireturn, 1) := by decide +kernel
theorem dL_timer_21 : decode cL_timer 21 = .ok (.iconst 0, 1) := by decide +kernel
theorem dL_timer_22 : decode cL_timer 22 = .ok (.ireturn, 1) := by decide +kernel
set_option maxRecDepth 20000 in
theorem ggL_masters_X0_masters : GoodIn wsL_masters wsX0_masters := goodIn_ca (goodIn_r _ [6, 7, 8, 5, 9, 10, 11, 12, 13, 14, 15, 16, 17, 18, 19, 20, 21, 22, 23, 24, 25, 26, 27, 28, 29, 30, 31, 32, 33, 34, 35, 36, 37] (by decide +kernel) (by decide +kernel)) (goodIn_sub (fun _ h => List.mem_cons_of_mem _ (List.mem_append_right _ h)) (by decide +kernel))
set_option maxRecDepth 20000 in
theorem gL_masters_X0_masters : GoodIn wsL_masters (wsV RL 61 RX0 yX0_masters wsX0_masters) := goodIn_app (goodIn_of _ (by decide +kernel)) ggL_masters_X0_masters
theorem dL_masters_0 : decode cL_masters 0 = .ok (.aload_n 2, 1) := by decide +kernel
theorem dL_masters_1 : decode cL_masters 1 = .ok (.iconst 0, 1) := by decide +kernel
theorem dL_masters_2 : decode cL_masters 2 = .ok (.aload_n 0, 1) := by decide +kernel
theorem dL_masters_3 : decode cL_masters 3 = .ok (.iload_n 1, 1) := by decide +kernel
theorem dL_masters_4 : decode cL_masters 4 = .ok (.invokevirtual 61, 3) := by decide +kernel
theorem dL_masters_7 : decode cL_masters 7 = .ok (.i2l, 1) := by decide +kernel
theorem dL_masters_8 : decode cL_masters 8 = .ok (.lastore, 1) := by decide +kernel
theorem dL_masters_9 : decode cL_masters 9 = .ok (.goto 6, 3) := by decide +kernel
theorem dL_masters_12 : decode cL_masters 12 = .ok (.astore_n 3, 1) := by decide +kernel
theorem dL_masters_13 : decode cL_masters 13 = .ok (.iconst 1, 1) := by decide +kernel
theorem dL_masters_14 : decode cL_masters 14 = .ok (.ireturn, 1) := by decide +kernel
theorem dL_masters_15 : decode cL_masters 15 = .ok (.iconst 0, 1) := by decide +kernel
theorem dL_masters_16 : decode cL_masters 16 = .ok (.ireturn, 1) := by decide +kernel
set_option maxRecDepth 20000 in
theorem ggL_changes_X0_changes : GoodIn wsL_changes wsX0_changes := goodIn_ca (goodIn_r _ [6, 7, 8, 9, 5, 10, 11, 12, 13, 14, 15, 16, 17, 18, 19, 20, 21, 22, 23, 24, 25, 26, 27, 28, 29, 30, 31, 32, 33, 34, 35, 36] (by decide +kernel) (by decide +kernel)) (goodIn_sub (fun _ h => List.mem_cons_of_mem _ (List.mem_append_right _ h)) (by decide +kernel))
set_option maxRecDepth 20000 in
theorem gL_changes_X0_changes : GoodIn wsL_changes (wsV RL 64 RX0 yX0_changes wsX0_changes) := goodIn_app (goodIn_of _ (by decide +kernel)) ggL_changes_X0_changes
theorem dL_changes_0 : decode cL_changes 0 = .ok (.aload_n 3, 1) := by decide +kernel
theorem dL_changes_1 : decode cL_changes 1 = .ok (.iconst 0, 1) := by decide +kernel
theorem dL_changes_2 : decode cL_changes 2 = .ok (.aload_n 0, 1) := by decide +kernel
theorem dL_changes_3 : decode cL_changes 3 = .ok (.iload_n 1, 1) := by decide +kernel
theorem dL_changes_4 : decode cL_changes 4 = .ok (.iload_n 2, 1) := by decide +kernel
theorem dL_changes_5 : decode cL_changes 5 = .ok (.invokevirtual 64, 3) := by decide +kernel
theorem dL_changes_8 : decode cL_changes 8 = .ok (.i2l, 1) := by decide +kernel
theorem dL_changes_9 : decode cL_changes 9 = .ok (.lastore, 1) := by decide +kernel
theorem dL_changes_10 : decode cL_changes 10 = .ok (.goto 7, 3) := by decide +kernel
theorem dL_changes_13 : decode cL_changes 13 = .ok (.astore 4, 2) := by decide +kernel
theorem dL_changes_15 : decode cL_changes 15 = .ok (.iconst 1, 1) := by decide +kernel
theorem dL_changes_16 : decode cL_changes 16 = .ok (.ireturn, 1) := by decide +kernel
theorem dL_changes_17 : decode cL_changes 17 = .ok (.iconst 0, 1) := by decide +kernel
theorem dL_changes_18 : decode cL_changes 18 = .ok (.ireturn, 1) := by decide +kernel
set_option maxRecDepth 20000 in
theorem ggL_gaps_X0_gaps : GoodIn wsL_gaps wsX0_gaps := goodIn_ca (goodIn_r _ [6, 7, 8, 9, 5, 10, 11, 12, 13, 14, 15, 16, 17, 18, 19, 20, 21, 22, 23, 24, 25, 26, 27, 28, 29, 30] (by decide +kernel) (by decide +kernel)) (goodIn_sub (fun _ h => List.mem_cons_of_mem _ (List.mem_append_right _ h)) (by decide +kernel))
set_option maxRecDepth 20000 in
theorem gL_gaps_X0_gaps : GoodIn wsL_gaps (wsV RL 67 RX0 yX0_gaps wsX0_gaps) := goodIn_app (goodIn_of _ (by decide +kernel)) ggL_gaps_X0_gaps
theorem dL_gaps_0 : decode cL_gaps 0 = .ok (.aload_n 2, 1) := by decide +kernel
theorem dL_gaps_1 : decode cL_gaps 1 = .ok (.iconst 0, 1) := by decide +kernel
theorem dL_gaps_2 : decode cL_gaps 2 = .ok (.aload_n 0, 1) := by decide +kernel
theorem dL_gaps_3 : decode cL_gaps 3 = .ok (.iload_n 1, 1) := by decide +kernel
theorem dL_gaps_4 : decode cL_gaps 4 = .ok (.invokevirtual 67, 3) := by decide +kernel
theorem dL_gaps_7 : decode cL_gaps 7 = .ok (.i2l, 1) := by decide +kernel
theorem dL_gaps_8 : decode cL_gaps 8 = .ok (.lastore, 1) := by decide +kernel
theorem dL_gaps_9 : decode cL_gaps 9 = .ok (.goto 6, 3) := by decide +kernel
theorem dL_gaps_12 : decode cL_gaps 12 = .ok (.astore_n 3, 1) := by decide +kernel
theorem dL_gaps_13 : decode cL_gaps 13 = .ok (.iconst 1, 1) := by decide +kernel
theorem dL_gaps_14 : decode cL_gaps 14 = .ok (.ireturn, 1) := by decide +kernel
theorem dL_gaps_15 : decode cL_gaps 15 = .ok (.iconst 0, 1) := by decide +kernel
theorem dL_gaps_16 : decode cL_gaps 16 = .ok (.ireturn, 1) := by decide +kernel
set_option maxRecDepth 20000 in
theorem ggL_sent_X0_sent : GoodIn wsL_sent wsX0_sent := goodIn_ca (goodIn_r _ [6, 7, 8, 9, 5, 10, 11, 12, 13, 14, 15, 16, 17, 18, 19, 20, 21, 22, 23, 24, 25, 26, 27, 28, 29, 30] (by decide +kernel) (by decide +kernel)) (goodIn_sub (fun _ h => List.mem_cons_of_mem _ (List.mem_append_right _ h)) (by decide +kernel))
set_option maxRecDepth 20000 in
theorem gL_sent_X0_sent : GoodIn wsL_sent (wsV RL 70 RX0 yX0_sent wsX0_sent) := goodIn_app (goodIn_of _ (by decide +kernel)) ggL_sent_X0_sent
theorem dL_sent_0 : decode cL_sent 0 = .ok (.aload_n 2, 1) := by decide +kernel
theorem dL_sent_1 : decode cL_sent 1 = .ok (.iconst 0, 1) := by decide +kernel
theorem dL_sent_2 : decode cL_sent 2 = .ok (.aload_n 0, 1) := by decide +kernel
theorem dL_sent_3 : decode cL_sent 3 = .ok (.iload_n 1, 1) := by decide +kernel
theorem dL_sent_4 : decode cL_sent 4 = .ok (.invokevirtual 70, 3) := by decide +kernel
theorem dL_sent_7 : decode cL_sent 7 = .ok (.i2l, 1) := by decide +kernel
theorem dL_sent_8 : decode cL_sent 8 = .ok (.lastore, 1) := by decide +kernel
theorem dL_sent_9 : decode cL_sent 9 = .ok (.goto 6, 3) := by decide +kernel
theorem dL_sent_12 : decode cL_sent 12 = .ok (.astore_n 3, 1) := by decide +kernel
theorem dL_sent_13 : decode cL_sent 13 = .ok (.iconst 1, 1) := by decide +kernel
theorem dL_sent_14 : decode cL_sent 14 = .ok (.ireturn, 1) := by decide +kernel
theorem dL_sent_15 : decode cL_sent 15 = .ok (.iconst 0, 1) := by decide +kernel
theorem dL_sent_16 : decode cL_sent 16 = .ok (.ireturn, 1) := by decide +kernel
set_option maxRecDepth 20000 in
theorem ggL_known_X0_known : GoodIn wsL_known wsX0_known := goodIn_ca (goodIn_r _ [6, 7, 8, 9, 5, 10, 11, 12, 13, 14, 15, 16, 17, 18, 19, 20, 21, 22, 23, 24, 25, 26, 27, 28, 29, 30, 31, 32, 33, 34, 35, 36] (by decide +kernel) (by decide +kernel)) (goodIn_sub (fun _ h => List.mem_cons_of_mem _ (List.mem_append_right _ h)) (by decide +kernel))
set_option maxRecDepth 20000 in
theorem gL_known_X0_known : GoodIn wsL_known (wsV RL 73 RX0 yX0_known wsX0_known) := goodIn_app (goodIn_of _ (by decide +kernel)) ggL_known_X0_known
theorem dL_known_0 : decode cL_known 0 = .ok (.aload_n 3, 1) := by decide +kernel
theorem dL_known_1 : decode cL_known 1 = .ok (.iconst 0, 1) := by decide +kernel
theorem dL_known_2 : decode cL_known 2 = .ok (.aload_n 0, 1) := by decide +kernel
theorem dL_known_3 : decode cL_known 3 = .ok (.iload_n 1, 1) := by decide +kernel
theorem dL_known_4 : decode cL_known 4 = .ok (.iload_n 2, 1) := by decide +kernel
theorem dL_known_5 : decode cL_known 5 = .ok (.invokevirtual 73, 3) := by decide +kernel
theorem dL_known_8 : decode cL_known 8 = .ok (.i2l, 1) := by decide +kernel
theorem dL_known_9 : decode cL_known 9 = .ok (.lastore, 1) := by decide +kernel
theorem dL_known_10 : decode cL_known 10 = .ok (.goto 7, 3) := by decide +kernel
theorem dL_known_13 : decode cL_known 13 = .ok (.astore 4, 2) := by decide +kernel
theorem dL_known_15 : decode cL_known 15 = .ok (.iconst 1, 1) := by decide +kernel
theorem dL_known_16 : decode cL_known 16 = .ok (.ireturn, 1) := by decide +kernel
theorem dL_known_17 : decode cL_known 17 = .ok (.iconst 0, 1) := by decide +kernel
theorem dL_known_18 : decode cL_known 18 = .ok (.ireturn, 1) := by decide +kernel
set_option maxRecDepth 20000 in
theorem ggL_isSettled_X0_isSettled : GoodIn wsL_isSettled wsX0_isSettled := goodIn_ca (goodIn_r _ [6, 7, 8, 5, 9, 10, 11, 12, 13, 14, 15, 16, 17, 18, 19, 20, 21, 22, 23, 24, 25, 26, 27, 28, 29, 30, 31, 32, 33, 34, 35, 36, 37, 38, 39, 40, 41, 42] (by decide +kernel) (by decide +kernel)) (goodIn_sub (fun _ h => List.mem_cons_of_mem _ (List.mem_append_right _ h)) (by decide +kernel))
set_option maxRecDepth 20000 in
theorem gL_isSettled_X0_isSettled : GoodIn wsL_isSettled (wsV RL 76 RX0 yX0_isSettled wsX0_isSettled) := goodIn_app (goodIn_of _ (by decide +kernel)) ggL_isSettled_X0_isSettled
theorem dL_isSettled_0 : decode cL_isSettled 0 = .ok (.aload_n 2, 1) := by decide +kernel
theorem dL_isSettled_1 : decode cL_isSettled 1 = .ok (.iconst 0, 1) := by decide +kernel
theorem dL_isSettled_2 : decode cL_isSettled 2 = .ok (.aload_n 0, 1) := by decide +kernel
theorem dL_isSettled_3 : decode cL_isSettled 3 = .ok (.iload_n 1, 1) := by decide +kernel
theorem dL_isSettled_4 : decode cL_isSettled 4 = .ok (.invokevirtual 76, 3) := by decide +kernel
theorem dL_isSettled_7 : decode cL_isSettled 7 = .ok (.ifCond .eq 7, 3) := by decide +kernel
theorem dL_isSettled_10 : decode cL_isSettled 10 = .ok (.lconst 1, 1) := by decide +kernel
theorem dL_isSettled_11 : decode cL_isSettled 11 = .ok (.goto 4, 3) := by decide +kernel
theorem dL_isSettled_14 : decode cL_isSettled 14 = .ok (.lconst 0, 1) := by decide +kernel
theorem dL_isSettled_15 : decode cL_isSettled 15 = .ok (.lastore, 1) := by decide +kernel
theorem dL_isSettled_16 : decode cL_isSettled 16 = .ok (.goto 6, 3) := by decide +kernel
theorem dL_isSettled_19 : decode cL_isSettled 19 = .ok (.astore_n 3, 1) := by decide +kernel
theorem dL_isSettled_20 : decode cL_isSettled 20 = .ok (.iconst 1, 1) := by decide +kernel
theorem dL_isSettled_21 : decode cL_isSettled 21 = .ok (.ireturn, 1) := by decide +kernel
theorem dL_isSettled_22 : decode cL_isSettled 22 = .ok (.iconst 0, 1) := by decide +kernel
theorem dL_isSettled_23 : decode cL_isSettled 23 = .ok (.ireturn, 1) := by decide +kernel
set_option maxRecDepth 20000 in
theorem ggL_law_X0_init : GoodIn wsL_law wsX0_init := goodIn_r _ [9, 10, 11, 12, 13, 14, 15, 16, 17, 18, 19, 20, 21, 22, 23, 24, 25, 26, 27, 28, 29, 30, 432, 433, 434, 435, 436, 437, 438, 439, 440, 441, 442, 443, 444, 445, 446, 447, 448, 449] (by decide +kernel) (by decide +kernel)
set_option maxRecDepth 20000 in
theorem gL_law_X0_init : GoodIn wsL_law (wsX0_init) := ggL_law_X0_init
set_option maxRecDepth 20000 in
theorem ggL_law_X1_init : GoodIn wsL_law wsX1_init := goodIn_r _ [33, 34, 11, 12, 13, 35, 17, 36, 37, 38, 39, 40, 41, 42, 43, 44, 45, 46, 47, 48, 49, 50, 450, 451, 452, 453, 454, 455, 456, 457, 458, 459, 460, 461, 462, 463, 464, 465, 466, 467, 468] (by decide +kernel) (by decide +kernel)
set_option maxRecDepth 20000 in
theorem gL_law_X1_init : GoodIn wsL_law (wsX1_init) := ggL_law_X1_init
set_option maxRecDepth 20000 in
theorem ggL_law_L_setPriority : GoodIn wsL_law wsL_setPriority := goodIn_ca (goodIn_r _ [54, 55, 56, 57, 58, 2, 59, 24, 25, 14, 60, 61, 62, 63, 64, 65, 66, 67, 68, 69, 70, 71, 72, 73, 74, 75, 76, 77, 23, 15, 78, 79, 80, 81, 82, 83, 84, 85, 16, 18, 86, 87, 88, 89, 90, 91, 92, 93, 94, 95, 96, 27, 26, 97, 98, 99, 100, 19, 101, 102, 103, 104, 105, 106, 107, 108, 28, 30, 109, 110, 111, 112, 113, 20, 21, 114, 115, 116, 117, 432, 433, 434, 435, 436, 437, 438, 439, 440, 441, 442, 443, 444, 445, 446, 447, 448, 449] (by decide +kernel) (by decide +kernel)) (goodIn_sub (fun _ h => List.mem_append_left _ (List.mem_append_right _ h)) (by decide +kernel))
set_option maxRecDepth 20000 in
theorem gL_law_L_setPriority : GoodIn wsL_law (va_wsS RL 84 yL_setPriority wsL_setPriority) := goodIn_app (goodIn_of _ (by decide +kernel)) ggL_law_L_setPriority
set_option maxRecDepth 20000 in
theorem ggL_law_X1_setPriority : GoodIn wsL_law wsX1_setPriority := goodIn_r _ [121, 36, 43, 122, 123, 5, 124, 125, 126, 127, 128, 129, 130, 131, 132, 133, 134, 135, 136, 137, 138, 139, 140, 141, 142, 50, 39, 143, 144, 145, 146, 44, 41, 45, 42, 147, 148, 149, 150, 38, 37, 151, 152, 153, 154, 155, 156, 157, 158, 40, 159, 160, 161, 162, 163, 164, 165, 166, 46, 47, 167, 168, 169, 170, 171, 35, 450, 451, 452, 453, 454, 455, 456, 457, 458, 459, 460, 461, 462, 463, 464, 465, 466, 467, 468] (by decide +kernel) (by decide +kernel)
set_option maxRecDepth 20000 in
theorem gL_law_X1_setPriority : GoodIn wsL_law (wsV RL 89 RX1 yX1_setPriority wsX1_setPriority) := goodIn_app (goodIn_of _ (by decide +kernel)) ggL_law_X1_setPriority
set_option maxRecDepth 20000 in
theorem ggL_law_X1_thrown : GoodIn wsL_law wsX1_thrown := goodIn_r _ [175, 138, 450, 451, 452, 453, 454, 455, 456, 457, 458, 459, 460, 461, 462, 463, 464, 465, 466, 467, 468] (by decide +kernel) (by decide +kernel)
set_option maxRecDepth 20000 in
theorem gL_law_X1_thrown : GoodIn wsL_law (wsV RL 90 RX1 yX1_thrown wsX1_thrown) := goodIn_app (goodIn_of _ (by decide +kernel)) ggL_law_X1_thrown
set_option maxRecDepth 20000 in
theorem ggL_law_L_track : GoodIn wsL_law wsL_track := goodIn_ca (goodIn_r _ [178, 55, 179, 180, 181, 2, 182, 18, 60, 61, 62, 63, 64, 183, 184, 185, 68, 69, 70, 90, 91, 92, 432, 433, 434, 435, 436, 437, 438, 439, 440, 441, 442, 443, 444, 445, 446, 447, 448, 449] (by decide +kernel) (by decide +kernel)) (goodIn_sub (fun _ h => List.mem_append_left _ (List.mem_append_right _ h)) (by decide +kernel))
set_option maxRecDepth 20000 in
theorem gL_law_L_track : GoodIn wsL_law (va_wsS RL 94 yL_track wsL_track) := goodIn_app (goodIn_of _ (by decide +kernel)) ggL_law_L_track
set_option maxRecDepth 20000 in
theorem ggL_law_X1_track : GoodIn wsL_law wsX1_track := goodIn_r _ [189, 37, 190, 191, 5, 192, 125, 126, 127, 128, 129, 130, 134, 135, 136, 137, 138, 450, 451, 452, 453, 454, 455, 456, 457, 458, 459, 460, 461, 462, 463, 464, 465, 466, 467, 468] (by decide +kernel) (by decide +kernel)
set_option maxRecDepth 20000 in
theorem gL_law_X1_track : GoodIn wsL_law (wsV RL 96 RX1 yX1_track wsX1_track) := goodIn_app (goodIn_of _ (by decide +kernel)) ggL_law_X1_track
set_option maxRecDepth 20000 in
theorem ggL_law_L_setLink : GoodIn wsL_law wsL_setLink := goodIn_ca (goodIn_r _ [195, 55, 196, 197, 198, 2, 199, 16, 60, 61, 62, 63, 64, 183, 184, 185, 90, 91, 92, 432, 433, 434, 435, 436, 437, 438, 439, 440, 441, 442, 443, 444, 445, 446, 447, 448, 449] (by decide +kernel) (by decide +kernel)) (goodIn_sub (fun _ h => List.mem_append_left _ (List.mem_append_right _ h)) (by decide +kernel))
set_option maxRecDepth 20000 in
theorem gL_law_L_setLink : GoodIn wsL_law (va_wsS RL 97 yL_setLink wsL_setLink) := goodIn_app (goodIn_of _ (by decide +kernel)) ggL_law_L_setLink
set_option maxRecDepth 20000 in
theorem ggL_law_X1_setLink : GoodIn wsL_law wsX1_setLink := goodIn_r _ [203, 38, 190, 191, 5, 192, 125, 126, 127, 128, 129, 130, 134, 135, 136, 137, 138, 450, 451, 452, 453, 454, 455, 456, 457, 458, 459, 460, 461, 462, 463, 464, 465, 466, 467, 468] (by decide +kernel) (by decide +kernel)
set_option maxRecDepth 20000 in
theorem gL_law_X1_setLink : GoodIn wsL_law (wsV RL 100 RX1 yX1_setLink wsX1_setLink) := goodIn_app (goodIn_of _ (by decide +kernel)) ggL_law_X1_setLink
set_option maxRecDepth 20000 in
theorem ggL_law_L_setPeriod : GoodIn wsL_law wsL_setPeriod := goodIn_ca (goodIn_r _ [206, 55, 207, 208, 209, 2, 210, 19, 65, 66, 67, 63, 64, 68, 69, 70, 432, 433, 434, 435, 436, 437, 438, 439, 440, 441, 442, 443, 444, 445, 446, 447, 448, 449] (by decide +kernel) (by decide +kernel)) (goodIn_sub (fun _ h => List.mem_append_left _ (List.mem_append_right _ h)) (by decide +kernel))
set_option maxRecDepth 20000 in
theorem gL_law_L_setPeriod : GoodIn wsL_law (va_wsS RL 101 yL_setPeriod wsL_setPeriod) := goodIn_app (goodIn_of _ (by decide +kernel)) ggL_law_L_setPeriod
set_option maxRecDepth 20000 in
theorem ggL_law_X1_setPeriod : GoodIn wsL_law wsX1_setPeriod := goodIn_r _ [214, 40, 131, 132, 5, 133, 128, 129, 130, 134, 135, 136, 137, 138, 450, 451, 452, 453, 454, 455, 456, 457, 458, 459, 460, 461, 462, 463, 464, 465, 466, 467, 468] (by decide +kernel) (by decide +kernel)
set_option maxRecDepth 20000 in
theorem gL_law_X1_setPeriod : GoodIn wsL_law (wsV RL 104 RX1 yX1_setPeriod wsX1_setPeriod) := goodIn_app (goodIn_of _ (by decide +kernel)) ggL_law_X1_setPeriod
set_option maxRecDepth 20000 in
theorem ggL_law_L_setPreemption : GoodIn wsL_law wsL_setPreemption := goodIn_ca (goodIn_r _ [217, 55, 218, 219, 220, 2, 221, 20, 21, 65, 66, 67, 63, 64, 68, 69, 70, 432, 433, 434, 435, 436, 437, 438, 439, 440, 441, 442, 443, 444, 445, 446, 447, 448, 449] (by decide +kernel) (by decide +kernel)) (goodIn_sub (fun _ h => List.mem_append_left _ (List.mem_append_right _ h)) (by decide +kernel))
set_option maxRecDepth 20000 in
theorem gL_law_L_setPreemption : GoodIn wsL_law (va_wsS RL 105 yL_setPreemption wsL_setPreemption) := goodIn_app (goodIn_of _ (by decide +kernel)) ggL_law_L_setPreemption
set_option maxRecDepth 20000 in
theorem ggL_law_X1_setPreemption : GoodIn wsL_law wsX1_setPreemption := goodIn_r _ [225, 41, 42, 131, 132, 5, 133, 128, 129, 130, 134, 135, 136, 137, 138, 450, 451, 452, 453, 454, 455, 456, 457, 458, 459, 460, 461, 462, 463, 464, 465, 466, 467, 468] (by decide +kernel) (by decide +kernel)
set_option maxRecDepth 20000 in
theorem gL_law_X1_setPreemption : GoodIn wsL_law (wsV RL 108 RX1 yX1_setPreemption wsX1_setPreemption) := goodIn_app (goodIn_of _ (by decide +kernel)) ggL_law_X1_setPreemption
set_option maxRecDepth 20000 in
theorem ggL_law_L_join : GoodIn wsL_law wsL_join := goodIn_ca (goodIn_r _ [228, 55, 229, 230, 231, 2, 232, 63, 64, 15, 60, 61, 62, 432, 433, 434, 435, 436, 437, 438, 439, 440, 441, 442, 443, 444, 445, 446, 447, 448, 449] (by decide +kernel) (by decide +kernel)) (goodIn_sub (fun _ h => List.mem_append_left _ (List.mem_append_right _ h)) (by decide +kernel))
set_option maxRecDepth 20000 in
theorem gL_law_L_join : GoodIn wsL_law (va_wsS RL 109 yL_join wsL_join) := goodIn_app (goodIn_of _ (by decide +kernel)) ggL_law_L_join
set_option maxRecDepth 20000 in
theorem ggL_law_X1_join : GoodIn wsL_law wsX1_join := goodIn_r _ [236, 39, 125, 126, 5, 127, 128, 129, 130, 134, 135, 136, 137, 138, 450, 451, 452, 453, 454, 455, 456, 457, 458, 459, 460, 461, 462, 463, 464, 465, 466, 467, 468] (by decide +kernel) (by decide +kernel)
set_option maxRecDepth 20000 in
theorem gL_law_X1_join : GoodIn wsL_law (wsV RL 111 RX1 yX1_join wsX1_join) := goodIn_app (goodIn_of _ (by decide +kernel)) ggL_law_X1_join
set_option maxRecDepth 20000 in
theorem ggL_law_L_die : GoodIn wsL_law wsL_die := goodIn_ca (goodIn_ca (goodIn_r _ [239, 55, 240, 241, 242, 243, 2, 244, 245, 246, 14, 25, 60, 61, 62, 63, 64, 71, 72, 73, 432, 433, 434, 435, 436, 437, 438, 439, 440, 441, 442, 443, 444, 445, 446, 447, 448, 449] (by decide +kernel) (by decide +kernel)) (goodIn_sub (fun _ h => List.mem_append_right _ h) (by decide +kernel))) (goodIn_sub (fun _ h => List.mem_append_left _ (List.mem_append_right _ h)) (by decide +kernel))
set_option maxRecDepth 20000 in
theorem gL_law_L_die : GoodIn wsL_law (va_wsS RL 112 yL_die wsL_die) := goodIn_app (goodIn_of _ (by decide +kernel)) ggL_law_L_die
set_option maxRecDepth 20000 in
theorem ggL_law_X1_die : GoodIn wsL_law wsX1_die := goodIn_r _ [250, 35, 43, 125, 126, 5, 127, 128, 129, 130, 134, 135, 136, 137, 138, 168, 169, 170, 171, 36, 47, 151, 152, 153, 154, 45, 44, 155, 156, 157, 158, 40, 159, 160, 161, 162, 147, 148, 149, 150, 38, 37, 450, 451, 452, 453, 454, 455, 456, 457, 458, 459, 460, 461, 462, 463, 464, 465, 466, 467, 468] (by decide +kernel) (by decide +kernel)
set_option maxRecDepth 20000 in
theorem gL_law_X1_die : GoodIn wsL_law (wsV RL 115 RX1 yX1_die wsX1_die) := goodIn_app (goodIn_of _ (by decide +kernel)) ggL_law_X1_die
set_option maxRecDepth 20000 in
theorem ggL_law_L_live : GoodIn wsL_law wsL_live := goodIn_ca (goodIn_ca (goodIn_r _ [253, 55, 240, 254, 255, 256, 2, 257, 245, 246, 14, 24, 60, 61, 62, 63, 64, 71, 72, 73, 114, 115, 116, 117, 30, 93, 94, 95, 96, 25, 27, 26, 82, 83, 84, 85, 16, 18, 86, 87, 88, 89, 90, 91, 92, 97, 98, 99, 100, 19, 101, 102, 103, 104, 432, 433, 434, 435, 436, 437, 438, 439, 440, 441, 442, 443, 444, 445, 446, 447, 448, 449] (by decide +kernel) (by decide +kernel)) (goodIn_sub (fun _ h => List.mem_append_right _ h) (by decide +kernel))) (goodIn_sub (fun _ h => List.mem_append_left _ (List.mem_append_right _ h)) (by decide +kernel))
set_option maxRecDepth 20000 in
theorem gL_law_L_live : GoodIn wsL_law (va_wsS RL 116 yL_live wsL_live) := goodIn_app (goodIn_of _ (by decide +kernel)) ggL_law_L_live
set_option maxRecDepth 20000 in
theorem ggL_law_X1_live : GoodIn wsL_law wsX1_live := goodIn_r _ [261, 35, 43, 125, 126, 5, 127, 128, 129, 130, 134, 135, 136, 137, 138, 168, 169, 170, 171, 36, 47, 151, 152, 153, 154, 45, 44, 155, 156, 157, 158, 40, 159, 160, 161, 162, 147, 148, 149, 150, 38, 37, 450, 451, 452, 453, 454, 455, 456, 457, 458, 459, 460, 461, 462, 463, 464, 465, 466, 467, 468] (by decide +kernel) (by decide +kernel)
set_option maxRecDepth 20000 in
theorem gL_law_X1_live : GoodIn wsL_law (wsV RL 118 RX1 yX1_live wsX1_live) := goodIn_app (goodIn_of _ (by decide +kernel)) ggL_law_X1_live
set_option maxRecDepth 20000 in
theorem ggL_law_L_handOver : GoodIn wsL_law wsL_handOver := goodIn_ca (goodIn_ca (goodIn_r _ [264, 55, 240, 265, 266, 267, 2, 268, 245, 246, 25, 60, 61, 62, 63, 64, 65, 66, 67, 71, 72, 73, 93, 94, 95, 96, 27, 26, 82, 83, 84, 85, 24, 16, 18, 86, 87, 88, 89, 90, 91, 92, 97, 98, 99, 100, 19, 101, 102, 103, 104, 74, 75, 76, 77, 23, 15, 78, 79, 80, 81, 105, 106, 107, 108, 28, 30, 109, 110, 111, 112, 113, 20, 21, 432, 433, 434, 435, 436, 437, 438, 439, 440, 441, 442, 443, 444, 445, 446, 447, 448, 449] (by decide +kernel) (by decide +kernel)) (goodIn_sub (fun _ h => List.mem_append_right _ h) (by decide +kernel))) (goodIn_sub (fun _ h => List.mem_append_left _ (List.mem_append_right _ h)) (by decide +kernel))
set_option maxRecDepth 20000 in
theorem gL_law_L_handOver : GoodIn wsL_law (va_wsS RL 119 yL_handOver wsL_handOver) := goodIn_app (goodIn_of _ (by decide +kernel)) ggL_law_L_handOver
set_option maxRecDepth 20000 in
theorem ggL_law_X1_handOver : GoodIn wsL_law wsX1_handOver := goodIn_r _ [272, 43, 122, 123, 5, 124, 125, 126, 127, 128, 129, 130, 131, 132, 133, 134, 135, 136, 137, 138, 151, 152, 153, 154, 45, 44, 155, 156, 157, 158, 40, 159, 160, 161, 162, 147, 148, 149, 150, 36, 38, 37, 139, 140, 141, 142, 50, 39, 143, 144, 145, 146, 41, 42, 163, 164, 165, 166, 46, 47, 167, 450, 451, 452, 453, 454, 455, 456, 457, 458, 459, 460, 461, 462, 463, 464, 465, 466, 467, 468] (by decide +kernel) (by decide +kernel)
set_option maxRecDepth 20000 in
theorem gL_law_X1_handOver : GoodIn wsL_law (wsV RL 122 RX1 yX1_handOver wsX1_handOver) := goodIn_app (goodIn_of _ (by decide +kernel)) ggL_law_X1_handOver
set_option maxRecDepth 20000 in
theorem ggL_law_L_serve : GoodIn wsL_law wsL_serve := goodIn_ca (goodIn_r _ [275, 55, 276, 277, 278, 2, 279, 25, 28, 65, 66, 67, 63, 64, 68, 69, 70, 71, 72, 73, 432, 433, 434, 435, 436, 437, 438, 439, 440, 441, 442, 443, 444, 445, 446, 447, 448, 449] (by decide +kernel) (by decide +kernel)) (goodIn_sub (fun _ h => List.mem_append_left _ (List.mem_append_right _ h)) (by decide +kernel))
set_option maxRecDepth 20000 in
theorem gL_law_L_serve : GoodIn wsL_law (va_wsS RL 123 yL_serve wsL_serve) := goodIn_app (goodIn_of _ (by decide +kernel)) ggL_law_L_serve
set_option maxRecDepth 20000 in
theorem ggL_law_X1_serve : GoodIn wsL_law wsX1_serve := goodIn_r _ [283, 43, 46, 131, 132, 5, 133, 128, 129, 130, 134, 135, 136, 137, 138, 450, 451, 452, 453, 454, 455, 456, 457, 458, 459, 460, 461, 462, 463, 464, 465, 466, 467, 468] (by decide +kernel) (by decide +kernel)
set_option maxRecDepth 20000 in
theorem gL_law_X1_serve : GoodIn wsL_law (wsV RL 125 RX1 yX1_serve wsX1_serve) := goodIn_app (goodIn_of _ (by decide +kernel)) ggL_law_X1_serve
set_option maxRecDepth 20000 in
theorem ggL_law_L_tick : GoodIn wsL_law wsL_tick := goodIn_ca (goodIn_r _ [286, 55, 287, 288, 289, 2, 290, 291, 68, 69, 70, 63, 64, 292, 293, 294, 295, 25, 26, 19, 71, 72, 73, 82, 83, 84, 85, 24, 16, 18, 86, 87, 88, 89, 90, 91, 92, 74, 75, 76, 77, 23, 15, 78, 79, 80, 81, 93, 94, 95, 96, 27, 97, 98, 99, 100, 101, 102, 103, 104, 105, 106, 107, 108, 28, 30, 109, 110, 111, 112, 113, 20, 21, 296, 297, 298, 299, 29, 300, 301, 302, 303, 22, 304, 305, 306, 307, 432, 433, 434, 435, 436, 437, 438, 439, 440, 441, 442, 443, 444, 445, 446, 447, 448, 449] (by decide +kernel) (by decide +kernel)) (goodIn_sub (fun _ h => List.mem_append_left _ (List.mem_append_right _ h)) (by decide +kernel))
set_option maxRecDepth 20000 in
theorem gL_law_L_tick : GoodIn wsL_law (va_wsS RL 126 yL_tick wsL_tick) := goodIn_app (goodIn_of _ (by decide +kernel)) ggL_law_L_tick
set_option maxRecDepth 20000 in
theorem ggL_law_X1_tick : GoodIn wsL_law wsX1_tick := goodIn_r _ [311, 49, 312, 128, 129, 5, 130, 134, 135, 136, 137, 138, 313, 314, 315, 316, 43, 44, 48, 40, 147, 148, 149, 150, 36, 38, 37, 139, 140, 141, 142, 50, 39, 143, 144, 145, 146, 41, 45, 42, 151, 152, 153, 154, 155, 156, 157, 158, 159, 160, 161, 162, 163, 164, 165, 166, 46, 47, 167, 317, 318, 319, 320, 450, 451, 452, 453, 454, 455, 456, 457, 458, 459, 460, 461, 462, 463, 464, 465, 466, 467, 468] (by decide +kernel) (by decide +kernel)
set_option maxRecDepth 20000 in
theorem gL_law_X1_tick : GoodIn wsL_law (wsV RL 128 RX1 yX1_tick wsX1_tick) := goodIn_app (goodIn_of _ (by decide +kernel)) ggL_law_X1_tick
set_option maxRecDepth 20000 in
theorem ggL_law_L_state : GoodIn wsL_law wsL_state := goodIn_ca (goodIn_r _ [323, 55, 324, 325, 326, 2, 327, 25, 60, 61, 62, 63, 64, 65, 66, 67, 71, 72, 73, 432, 433, 434, 435, 436, 437, 438, 439, 440, 441, 442, 443, 444, 445, 446, 447, 448, 449] (by decide +kernel) (by decide +kernel)) (goodIn_sub (fun _ h => List.mem_append_left _ (List.mem_append_right _ h)) (by decide +kernel))
set_option maxRecDepth 20000 in
theorem gL_law_L_state : GoodIn wsL_law (va_wsS RL 129 yL_state wsL_state) := goodIn_app (goodIn_of _ (by decide +kernel)) ggL_law_L_state
set_option maxRecDepth 20000 in
theorem ggL_law_X1_state : GoodIn wsL_law wsX1_state := goodIn_r _ [331, 43, 122, 123, 5, 124, 125, 126, 127, 128, 129, 130, 131, 132, 133, 134, 135, 136, 137, 138, 450, 451, 452, 453, 454, 455, 456, 457, 458, 459, 460, 461, 462, 463, 464, 465, 466, 467, 468] (by decide +kernel) (by decide +kernel)
set_option maxRecDepth 20000 in
theorem gL_law_X1_state : GoodIn wsL_law (wsV RL 131 RX1 yX1_state wsX1_state) := goodIn_app (goodIn_of _ (by decide +kernel)) ggL_law_X1_state
set_option maxRecDepth 20000 in
theorem ggL_law_L_priority : GoodIn wsL_law wsL_priority := goodIn_ca (goodIn_r _ [334, 55, 335, 336, 337, 2, 338, 25, 60, 61, 62, 63, 64, 65, 66, 67, 71, 72, 73, 82, 83, 84, 85, 24, 16, 18, 86, 87, 88, 89, 90, 91, 92, 432, 433, 434, 435, 436, 437, 438, 439, 440, 441, 442, 443, 444, 445, 446, 447, 448, 449] (by decide +kernel) (by decide +kernel)) (goodIn_sub (fun _ h => List.mem_append_left _ (List.mem_append_right _ h)) (by decide +kernel))
set_option maxRecDepth 20000 in
theorem gL_law_L_priority : GoodIn wsL_law (va_wsS RL 132 yL_priority wsL_priority) := goodIn_app (goodIn_of _ (by decide +kernel)) ggL_law_L_priority
set_option maxRecDepth 20000 in
theorem ggL_law_X1_priority : GoodIn wsL_law wsX1_priority := goodIn_r _ [342, 43, 122, 123, 5, 124, 125, 126, 127, 128, 129, 130, 131, 132, 133, 134, 135, 136, 137, 138, 147, 148, 149, 150, 36, 38, 37, 450, 451, 452, 453, 454, 455, 456, 457, 458, 459, 460, 461, 462, 463, 464, 465, 466, 467, 468] (by decide +kernel) (by decide +kernel)
set_option maxRecDepth 20000 in
theorem gL_law_X1_priority : GoodIn wsL_law (wsV RL 134 RX1 yX1_priority wsX1_priority) := goodIn_app (goodIn_of _ (by decide +kernel)) ggL_law_X1_priority
set_option maxRecDepth 20000 in
theorem ggL_law_L_timer : GoodIn wsL_law wsL_timer := goodIn_ca (goodIn_ca (goodIn_r _ [345, 55, 240, 346, 347, 348, 2, 349, 245, 246, 25, 26, 60, 61, 62, 63, 64, 65, 66, 67, 71, 72, 73, 432, 433, 434, 435, 436, 437, 438, 439, 440, 441, 442, 443, 444, 445, 446, 447, 448, 449] (by decide +kernel) (by decide +kernel)) (goodIn_sub (fun _ h => List.mem_append_right _ h) (by decide +kernel))) (goodIn_sub (fun _ h => List.mem_append_left _ (List.mem_append_right _ h)) (by decide +kernel))
set_option maxRecDepth 20000 in
theorem gL_law_L_timer : GoodIn wsL_law (va_wsS RL 135 yL_timer wsL_timer) := goodIn_app (goodIn_of _ (by decide +kernel)) ggL_law_L_timer
set_option maxRecDepth 20000 in
theorem ggL_law_X1_timer : GoodIn wsL_law wsX1_timer := goodIn_r _ [353, 43, 44, 122, 123, 5, 124, 125, 126, 127, 128, 129, 130, 131, 132, 133, 134, 135, 136, 137, 138, 450, 451, 452, 453, 454, 455, 456, 457, 458, 459, 460, 461, 462, 463, 464, 465, 466, 467, 468] (by decide +kernel) (by decide +kernel)
set_option maxRecDepth 20000 in
theorem gL_law_X1_timer : GoodIn wsL_law (wsV RL 137 RX1 yX1_timer wsX1_timer) := goodIn_app (goodIn_of _ (by decide +kernel)) ggL_law_X1_timer
set_option maxRecDepth 20000 in
theorem ggL_law_L_masters : GoodIn wsL_law wsL_masters := goodIn_ca (goodIn_r _ [356, 55, 357, 358, 359, 2, 360, 65, 66, 67, 63, 64, 304, 305, 306, 307, 25, 71, 72, 73, 432, 433, 434, 435, 436, 437, 438, 439, 440, 441, 442, 443, 444, 445, 446, 447, 448, 449] (by decide +kernel) (by decide +kernel)) (goodIn_sub (fun _ h => List.mem_append_left _ (List.mem_append_right _ h)) (by decide +kernel))
set_option maxRecDepth 20000 in
theorem gL_law_L_masters : GoodIn wsL_law (va_wsS RL 138 yL_masters wsL_masters) := goodIn_app (goodIn_of _ (by decide +kernel)) ggL_law_L_masters
set_option maxRecDepth 20000 in
theorem ggL_law_X1_masters : GoodIn wsL_law wsX1_masters := goodIn_r _ [364, 43, 131, 132, 5, 133, 128, 129, 130, 134, 135, 136, 137, 138, 450, 451, 452, 453, 454, 455, 456, 457, 458, 459, 460, 461, 462, 463, 464, 465, 466, 467, 468] (by decide +kernel) (by decide +kernel)
set_option maxRecDepth 20000 in
theorem gL_law_X1_masters : GoodIn wsL_law (wsV RL 140 RX1 yX1_masters wsX1_masters) := goodIn_app (goodIn_of _ (by decide +kernel)) ggL_law_X1_masters
set_option maxRecDepth 20000 in
theorem ggL_law_L_changes : GoodIn wsL_law wsL_changes := goodIn_ca (goodIn_r _ [367, 55, 368, 369, 370, 2, 371, 29, 60, 61, 62, 63, 64, 65, 66, 67, 71, 72, 73, 432, 433, 434, 435, 436, 437, 438, 439, 440, 441, 442, 443, 444, 445, 446, 447, 448, 449] (by decide +kernel) (by decide +kernel)) (goodIn_sub (fun _ h => List.mem_append_left _ (List.mem_append_right _ h)) (by decide +kernel))
set_option maxRecDepth 20000 in
theorem gL_law_L_changes : GoodIn wsL_law (va_wsS RL 141 yL_changes wsL_changes) := goodIn_app (goodIn_of _ (by decide +kernel)) ggL_law_L_changes
set_option maxRecDepth 20000 in
theorem ggL_law_X1_changes : GoodIn wsL_law wsX1_changes := goodIn_r _ [375, 48, 122, 123, 5, 124, 125, 126, 127, 128, 129, 130, 131, 132, 133, 134, 135, 136, 137, 138, 450, 451, 452, 453, 454, 455, 456, 457, 458, 459, 460, 461, 462, 463, 464, 465, 466, 467, 468] (by decide +kernel) (by decide +kernel)
set_option maxRecDepth 20000 in
theorem gL_law_X1_changes : GoodIn wsL_law (wsV RL 143 RX1 yX1_changes wsX1_changes) := goodIn_app (goodIn_of _ (by decide +kernel)) ggL_law_X1_changes
set_option maxRecDepth 20000 in
theorem ggL_law_L_gaps : GoodIn wsL_law wsL_gaps := goodIn_ca (goodIn_r _ [378, 55, 379, 380, 381, 2, 382, 22, 65, 66, 67, 63, 64, 432, 433, 434, 435, 436, 437, 438, 439, 440, 441, 442, 443, 444, 445, 446, 447, 448, 449] (by decide +kernel) (by decide +kernel)) (goodIn_sub (fun _ h => List.mem_append_left _ (List.mem_append_right _ h)) (by decide +kernel))
set_option maxRecDepth 20000 in
theorem gL_law_L_gaps : GoodIn wsL_law (va_wsS RL 144 yL_gaps wsL_gaps) := goodIn_app (goodIn_of _ (by decide +kernel)) ggL_law_L_gaps
set_option maxRecDepth 20000 in
theorem ggL_law_X1_gaps : GoodIn wsL_law wsX1_gaps := goodIn_r _ [386, 49, 131, 132, 5, 133, 128, 129, 130, 134, 135, 136, 137, 138, 450, 451, 452, 453, 454, 455, 456, 457, 458, 459, 460, 461, 462, 463, 464, 465, 466, 467, 468] (by decide +kernel) (by decide +kernel)
set_option maxRecDepth 20000 in
theorem gL_law_X1_gaps : GoodIn wsL_law (wsV RL 146 RX1 yX1_gaps wsX1_gaps) := goodIn_app (goodIn_of _ (by decide +kernel)) ggL_law_X1_gaps
set_option maxRecDepth 20000 in
theorem ggL_law_L_sent : GoodIn wsL_law wsL_sent := goodIn_ca (goodIn_r _ [389, 55, 390, 391, 392, 2, 393, 23, 65, 66, 67, 63, 64, 432, 433, 434, 435, 436, 437, 438, 439, 440, 441, 442, 443, 444, 445, 446, 447, 448, 449] (by decide +kernel) (by decide +kernel)) (goodIn_sub (fun _ h => List.mem_append_left _ (List.mem_append_right _ h)) (by decide +kernel))
set_option maxRecDepth 20000 in
theorem gL_law_L_sent : GoodIn wsL_law (va_wsS RL 147 yL_sent wsL_sent) := goodIn_app (goodIn_of _ (by decide +kernel)) ggL_law_L_sent
set_option maxRecDepth 20000 in
theorem ggL_law_X1_sent : GoodIn wsL_law wsX1_sent := goodIn_r _ [397, 50, 131, 132, 5, 133, 128, 129, 130, 134, 135, 136, 137, 138, 450, 451, 452, 453, 454, 455, 456, 457, 458, 459, 460, 461, 462, 463, 464, 465, 466, 467, 468] (by decide +kernel) (by decide +kernel)
set_option maxRecDepth 20000 in
theorem gL_law_X1_sent : GoodIn wsL_law (wsV RL 149 RX1 yX1_sent wsX1_sent) := goodIn_app (goodIn_of _ (by decide +kernel)) ggL_law_X1_sent
set_option maxRecDepth 20000 in
theorem ggL_law_L_known : GoodIn wsL_law wsL_known := goodIn_ca (goodIn_r _ [400, 55, 401, 402, 403, 2, 404, 28, 60, 61, 62, 63, 64, 65, 66, 67, 71, 72, 73, 432, 433, 434, 435, 436, 437, 438, 439, 440, 441, 442, 443, 444, 445, 446, 447, 448, 449] (by decide +kernel) (by decide +kernel)) (goodIn_sub (fun _ h => List.mem_append_left _ (List.mem_append_right _ h)) (by decide +kernel))
set_option maxRecDepth 20000 in
theorem gL_law_L_known : GoodIn wsL_law (va_wsS RL 150 yL_known wsL_known) := goodIn_app (goodIn_of _ (by decide +kernel)) ggL_law_L_known
set_option maxRecDepth 20000 in
theorem ggL_law_X1_known : GoodIn wsL_law wsX1_known := goodIn_r _ [408, 46, 122, 123, 5, 124, 125, 126, 127, 128, 129, 130, 131, 132, 133, 134, 135, 136, 137, 138, 450, 451, 452, 453, 454, 455, 456, 457, 458, 459, 460, 461, 462, 463, 464, 465, 466, 467, 468] (by decide +kernel) (by decide +kernel)
set_option maxRecDepth 20000 in
theorem gL_law_X1_known : GoodIn wsL_law (wsV RL 152 RX1 yX1_known wsX1_known) := goodIn_app (goodIn_of _ (by decide +kernel)) ggL_law_X1_known
set_option maxRecDepth 20000 in
theorem ggL_law_X0_repairs : GoodIn wsL_law wsX0_repairs := goodIn_r _ [412, 109, 432, 433, 434, 435, 436, 437, 438, 439, 440, 441, 442, 443, 444, 445, 446, 447, 448, 449] (by decide +kernel) (by decide +kernel)
set_option maxRecDepth 20000 in
theorem gL_law_X0_repairs : GoodIn wsL_law (wsV RL 153 RX0 yX0_repairs wsX0_repairs) := goodIn_app (goodIn_of _ (by decide +kernel)) ggL_law_X0_repairs
set_option maxRecDepth 20000 in
theorem ggL_law_X1_repairs : GoodIn wsL_law wsX1_repairs := goodIn_r _ [416, 138, 167, 450, 451, 452, 453, 454, 455, 456, 457, 458, 459, 460, 461, 462, 463, 464, 465, 466, 467, 468] (by decide +kernel) (by decide +kernel)
set_option maxRecDepth 20000 in
theorem gL_law_X1_repairs : GoodIn wsL_law (wsV RL 156 RX1 yX1_repairs wsX1_repairs) := goodIn_app (goodIn_of _ (by decide +kernel)) ggL_law_X1_repairs
set_option maxRecDepth 20000 in
theorem ggL_law_L_isSettled : GoodIn wsL_law wsL_isSettled := goodIn_ca (goodIn_r _ [419, 55, 420, 421, 422, 2, 423, 65, 66, 67, 63, 64, 304, 305, 306, 307, 25, 71, 72, 73, 424, 425, 426, 427, 15, 432, 433, 434, 435, 436, 437, 438, 439, 440, 441, 442, 443, 444, 445, 446, 447, 448, 449] (by decide +kernel) (by decide +kernel)) (goodIn_sub (fun _ h => List.mem_append_left _ (List.mem_append_right _ h)) (by decide +kernel))
set_option maxRecDepth 20000 in
theorem gL_law_L_isSettled : GoodIn wsL_law (va_wsS RL 157 yL_isSettled wsL_isSettled) := goodIn_app (goodIn_of _ (by decide +kernel)) ggL_law_L_isSettled
set_option maxRecDepth 20000 in
theorem ggL_law_X1_isSettled : GoodIn wsL_law wsX1_isSettled := goodIn_r _ [431, 43, 39, 131, 132, 5, 133, 128, 129, 130, 134, 135, 136, 137, 138, 317, 318, 319, 320, 450, 451, 452, 453, 454, 455, 456, 457, 458, 459, 460, 461, 462, 463, 464, 465, 466, 467, 468] (by decide +kernel) (by decide +kernel)
set_option maxRecDepth 20000 in
theorem gL_law_X1_isSettled : GoodIn wsL_law (wsV RL 159 RX1 yX1_isSettled wsX1_isSettled) := goodIn_app (goodIn_of _ (by decide +kernel)) ggL_law_X1_isSettled
