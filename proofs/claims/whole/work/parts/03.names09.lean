set_option maxRecDepth 20000 in
theorem gL_get_X3_get : GoodIn wsL_get (wsV RL 53 RX3 yX3_get wsX3_get) := goodIn_app (goodIn_of _ (by decide +kernel)) ggL_get_X3_get
theorem dL_get_0 : decode cL_get 0 = .ok (.aload_n 2, 1) := by decide +kernel
theorem dL_get_1 : decode cL_get 1 = .ok (.iconst 0, 1) := by decide +kernel
theorem dL_get_2 : decode cL_get 2 = .ok (.aload_n 0, 1) := by decide +kernel
theorem dL_get_3 : decode cL_get 3 = .ok (.iload_n 1, 1) := by decide +kernel
theorem dL_get_4 : decode cL_get 4 = .ok (.invokevirtual 53, 3) := by decide +kernel
theorem dL_get_7 : decode cL_get 7 = .ok (.i2l, 1) := by decide +kernel
theorem dL_get_8 : decode cL_get 8 = .ok (.lastore, 1) := by decide +kernel
theorem dL_get_9 : decode cL_get 9 = .ok (.goto 9, 3) := by decide +kernel
theorem dL_get_12 : decode cL_get 12 = .ok (.astore_n 3, 1) := by decide +kernel
theorem dL_get_13 : decode cL_get 13 = .ok (.iconst 1, 1) := by decide +kernel
theorem dL_get_14 : decode cL_get 14 = .ok (.ireturn, 1) := by decide +kernel
theorem dL_get_15 : decode cL_get 15 = .ok (.astore_n 3, 1) := by decide +kernel
theorem dL_get_16 : decode cL_get 16 = .ok (.iconst 2, 1) := by decide +kernel
theorem dL_get_17 : decode cL_get 17 = .ok (.ireturn, 1) := by decide +kernel
theorem dL_get_18 : decode cL_get 18 = .ok (.iconst 0, 1) := by decide +kernel
theorem dL_get_19 : decode cL_get 19 = .ok (.ireturn, 1) := by decide +kernel
set_option maxRecDepth 20000 in
theorem ggL_getPass_X3_getPass : GoodIn wsL_getPass wsX3_getPass := goodIn_ca (goodIn_r _ [6, 7, 8, 9, 10, 5, 11, 12, 13, 14, 15, 16, 17, 18, 19, 20, 21, 22, 23, 24, 25, 26, 27, 28, 29, 30, 31, 32, 33, 34, 35, 36, 37, 38, 39, 40, 41, 42] (by decide +kernel) (by decide +kernel)) (goodIn_sub (fun _ h => List.mem_cons_of_mem _ (List.mem_append_right _ h)) (by decide +kernel))
set_option maxRecDepth 20000 in
theorem gL_getPass_X3_getPass : GoodIn wsL_getPass (wsV RL 56 RX3 yX3_getPass wsX3_getPass) := goodIn_app (goodIn_of _ (by decide +kernel)) ggL_getPass_X3_getPass
theorem dL_getPass_0 : decode cL_getPass 0 = .ok (.aload_n 1, 1) := by decide +kernel
theorem dL_getPass_1 : decode cL_getPass 1 = .ok (.iconst 0, 1) := by decide +kernel
theorem dL_getPass_2 : decode cL_getPass 2 = .ok (.aload_n 0, 1) := by decide +kernel
theorem dL_getPass_3 : decode cL_getPass 3 = .ok (.invokevirtual 56, 3) := by decide +kernel
theorem dL_getPass_6 : decode cL_getPass 6 = .ok (.i2l, 1) := by decide +kernel
theorem dL_getPass_7 : decode cL_getPass 7 = .ok (.lastore, 1) := by decide +kernel
theorem dL_getPass_8 : decode cL_getPass 8 = .ok (.goto 6, 3) := by decide +kernel
theorem dL_getPass_11 : decode cL_getPass 11 = .ok (.astore_n 2, 1) := by decide +kernel
theorem dL_getPass_12 : decode cL_getPass 12 = .ok (.iconst 1, 1) := by decide +kernel
theorem dL_getPass_13 : decode cL_getPass 13 = .ok (.ireturn, 1) := by decide +kernel
theorem dL_getPass_14 : decode cL_getPass 14 = .ok (.iconst 0, 1) := by decide +kernel
theorem dL_getPass_15 : decode cL_getPass 15 = .ok (.ireturn, 1) := by decide +kernel
set_option maxRecDepth 20000 in
theorem ggL_getGolomb_X3_getGolomb : GoodIn wsL_getGolomb wsX3_getGolomb := goodIn_ca (goodIn_ca (goodIn_r _ [7, 8, 9, 10, 11, 6, 12, 13, 14, 15, 16, 17, 18, 19, 20, 21, 22, 23, 24, 25, 26, 27, 28, 29, 30, 31, 32, 33, 34, 35, 36, 37, 38, 39, 40, 41, 42, 43, 44, 45, 46, 47, 48, 49, 50, 51, 52, 53, 54, 55, 56, 57, 58, 59, 60, 61, 62, 63] (by decide +kernel) (by decide +kernel)) (goodIn_sub (fun _ h => List.mem_cons_of_mem _ (List.mem_append_left _ (List.mem_append_right _ h))) (by decide +kernel))) (goodIn_sub (fun _ h => List.mem_cons_of_mem _ (List.mem_append_right _ h)) (by decide +kernel))
set_option maxRecDepth 20000 in
theorem gL_getGolomb_X3_getGolomb : GoodIn wsL_getGolomb (wsV RL 59 RX3 yX3_getGolomb wsX3_getGolomb) := goodIn_app (goodIn_of _ (by decide +kernel)) ggL_getGolomb_X3_getGolomb
theorem dL_getGolomb_0 : decode cL_getGolomb 0 = .ok (.aload_n 3, 1) := by decide +kernel
theorem dL_getGolomb_1 : decode cL_getGolomb 1 = .ok (.iconst 0, 1) := by decide +kernel
theorem dL_getGolomb_2 : decode cL_getGolomb 2 = .ok (.aload_n 0, 1) := by decide +kernel
theorem dL_getGolomb_3 : decode cL_getGolomb 3 = .ok (.iload_n 1, 1) := by decide +kernel
theorem dL_getGolomb_4 : decode cL_getGolomb 4 = .ok (.iload_n 2, 1) := by decide +kernel
theorem dL_getGolomb_5 : decode cL_getGolomb 5 = .ok (.invokevirtual 59, 3) := by decide +kernel
theorem dL_getGolomb_8 : decode cL_getGolomb 8 = .ok (.i2l, 1) := by decide +kernel
theorem dL_getGolomb_9 : decode cL_getGolomb 9 = .ok (.lastore, 1) := by decide +kernel
theorem dL_getGolomb_10 : decode cL_getGolomb 10 = .ok (.goto 11, 3) := by decide +kernel
theorem dL_getGolomb_13 : decode cL_getGolomb 13 = .ok (.astore 4, 2) := by decide +kernel
theorem dL_getGolomb_15 : decode cL_getGolomb 15 = .ok (.iconst 1, 1) := by decide +kernel
theorem dL_getGolomb_16 : decode cL_getGolomb 16 = .ok (.ireturn, 1) := by decide +kernel
theorem dL_getGolomb_17 : decode cL_getGolomb 17 = .ok (.astore 4, 2) := by decide +kernel
theorem dL_getGolomb_19 : decode cL_getGolomb 19 = .ok (.iconst 2, 1) := by decide +kernel
theorem dL_getGolomb_20 : decode cL_getGolomb 20 = .ok (.ireturn, 1) := by decide +kernel
theorem dL_getGolomb_21 : decode cL_getGolomb 21 = .ok (.iconst 0, 1) := by decide +kernel
theorem dL_getGolomb_22 : decode cL_getGolomb 22 = .ok (.ireturn, 1) := by decide +kernel
set_option maxRecDepth 20000 in
theorem ggL_getUnary_X3_getUnary : GoodIn wsL_getUnary wsX3_getUnary := goodIn_ca (goodIn_ca (goodIn_ca (goodIn_r _ [8, 9, 10, 11, 7, 12, 13, 14, 15, 16, 17, 18, 19, 20, 21, 22, 23, 24, 25, 26, 27, 28, 29, 30, 31, 32, 33, 34, 35, 36, 37, 38, 39, 40, 41, 42, 43, 44, 45, 46, 47, 48, 49, 50, 51, 52, 53, 54, 55, 56, 57, 58, 59, 60, 61, 62, 63, 64, 65, 66, 67, 68, 69, 70, 71, 72, 73, 74, 75, 76, 77, 78, 79, 80, 81, 82, 83, 84] (by decide +kernel) (by decide +kernel)) (goodIn_sub (fun _ h => List.mem_cons_of_mem _ (List.mem_append_left _ (List.mem_append_left _ (List.mem_append_right _ h)))) (by decide +kernel))) (goodIn_sub (fun _ h => List.mem_cons_of_mem _ (List.mem_append_left _ (List.mem_append_right _ h))) (by decide +kernel))) (goodIn_sub (fun _ h => List.mem_cons_of_mem _ (List.mem_append_right _ h)) (by decide +kernel))
set_option maxRecDepth 20000 in
theorem gL_getUnary_X3_getUnary : GoodIn wsL_getUnary (wsV RL 63 RX3 yX3_getUnary wsX3_getUnary) := goodIn_app (goodIn_of _ (by decide +kernel)) ggL_getUnary_X3_getUnary
theorem dL_getUnary_0 : decode cL_getUnary 0 = .ok (.aload_n 3, 1) := by decide +kernel
theorem dL_getUnary_1 : decode cL_getUnary 1 = .ok (.iconst 0, 1) := by decide +kernel
theorem dL_getUnary_2 : decode cL_getUnary 2 = .ok (.aload_n 0, 1) := by decide +kernel
theorem dL_getUnary_3 : decode cL_getUnary 3 = .ok (.iload_n 1, 1) := by decide +kernel
theorem dL_getUnary_4 : decode cL_getUnary 4 = .ok (.iload_n 2, 1) := by decide +kernel
theorem dL_getUnary_5 : decode cL_getUnary 5 = .ok (.invokevirtual 63, 3) := by decide +kernel
theorem dL_getUnary_8 : decode cL_getUnary 8 = .ok (.i2l, 1) := by decide +kernel
theorem dL_getUnary_9 : decode cL_getUnary 9 = .ok (.lastore, 1) := by decide +kernel
theorem dL_getUnary_10 : decode cL_getUnary 10 = .ok (.goto 15, 3) := by decide +kernel
theorem dL_getUnary_13 : decode cL_getUnary 13 = .ok (.astore 4, 2) := by decide +kernel
theorem dL_getUnary_15 : decode cL_getUnary 15 = .ok (.iconst 1, 1) := by decide +kernel
theorem dL_getUnary_16 : decode cL_getUnary 16 = .ok (.ireturn, 1) := by decide +kernel
theorem dL_getUnary_17 : decode cL_getUnary 17 = .ok (.astore 4, 2) := by decide +kernel
theorem dL_getUnary_19 : decode cL_getUnary 19 = .ok (.iconst 2, 1) := by decide +kernel
theorem dL_getUnary_20 : decode cL_getUnary 20 = .ok (.ireturn, 1) := by decide +kernel
theorem dL_getUnary_21 : decode cL_getUnary 21 = .ok (.astore 4, 2) := by decide +kernel
theorem dL_getUnary_23 : decode cL_getUnary 23 = .ok (.iconst 3, 1) := by decide +kernel
theorem dL_getUnary_24 : decode cL_getUnary 24 = .ok (.ireturn, 1) := by decide +kernel
theorem dL_getUnary_25 : decode cL_getUnary 25 = .ok (.iconst 0, 1) := by decide +kernel
theorem dL_getUnary_26 : decode cL_getUnary 26 = .ok (.ireturn, 1) := by decide +kernel
set_option maxRecDepth 20000 in
theorem ggL_ended_X3_ended : GoodIn wsL_ended wsX3_ended := goodIn_ca (goodIn_r _ [6, 7, 8, 9, 10, 5, 11, 12, 13, 14, 15, 16, 17, 18, 19, 20, 21, 22, 23, 24, 25, 26, 27, 28, 29, 30, 31, 32, 33, 34, 35, 36, 37, 38, 39, 40, 41, 42, 43, 44, 45, 46, 47] (by decide +kernel) (by decide +kernel)) (goodIn_sub (fun _ h => List.mem_cons_of_mem _ (List.mem_append_right _ h)) (by decide +kernel))
set_option maxRecDepth 20000 in
theorem gL_ended_X3_ended : GoodIn wsL_ended (wsV RL 67 RX3 yX3_ended wsX3_ended) := goodIn_app (goodIn_of _ (by decide +kernel)) ggL_ended_X3_ended
theorem dL_ended_0 : decode cL_ended 0 = .ok (.aload_n 1, 1) := by decide +kernel
theorem dL_ended_1 : decode cL_ended 1 = .ok (.iconst 0, 1) := by decide +kernel
theorem dL_ended_2 : decode cL_ended 2 = .ok (.aload_n 0, 1) := by decide +kernel
theorem dL_ended_3 : decode cL_ended 3 = .ok (.invokevirtual 67, 3) := by decide +kernel
theorem dL_ended_6 : decode cL_ended 6 = .ok (.ifCond .eq 7, 3) := by decide +kernel
theorem dL_ended_9 : decode cL_ended 9 = .ok (.lconst 1, 1) := by decide +kernel
theorem dL_ended_10 : decode cL_ended 10 = .ok (.goto 4, 3) := by decide +kernel
theorem dL_ended_13 : decode cL_ended 13 = .ok (.lconst 0, 1) := by decide +kernel
theorem dL_ended_14 : decode cL_ended 14 = .ok (.lastore, 1) := by decide +kernel
theorem dL_ended_15 : decode cL_ended 15 = .ok (.goto 6, 3) := by decide +kernel
theorem dL_ended_18 : decode cL_ended 18 = .ok (.astore_n 2, 1) := by decide +kernel
theorem dL_ended_19 : decode cL_ended 19 = .ok (.iconst 1, 1) := by decide +kernel
theorem dL_ended_20 : decode cL_ended 20 = .ok (.ireturn, 1) := by decide +kernel
theorem dL_ended_21 : decode cL_ended 21 = .ok (.iconst 0, 1) := by decide +kernel
theorem dL_ended_22 : decode cL_ended 22 = .ok (.ireturn, 1) := by decide +kernel
set_option maxRecDepth 20000 in
theorem ggL_about_X3_about : GoodIn wsL_about wsX3_about := goodIn_ca (goodIn_r _ [6, 7, 8, 9, 10, 11, 12, 13, 14, 5, 15, 16, 17, 18, 19, 20, 21, 22, 23, 24, 25, 26, 27, 28, 29, 30, 31, 32, 33, 34, 35, 36, 37, 38, 39, 40] (by decide +kernel) (by decide +kernel)) (goodIn_sub (fun _ h => List.mem_cons_of_mem _ (List.mem_append_right _ h)) (by decide +kernel))
set_option maxRecDepth 20000 in
theorem gL_about_X3_about : GoodIn wsL_about (wsV RL 70 RX3 yX3_about wsX3_about) := goodIn_app (goodIn_of _ (by decide +kernel)) ggL_about_X3_about
theorem dL_about_0 : decode cL_about 0 = .ok (.aload_n 3, 1) := by decide +kernel
theorem dL_about_1 : decode cL_about 1 = .ok (.iconst 0, 1) := by decide +kernel
theorem dL_about_2 : decode cL_about 2 = .ok (.aload_n 0, 1) := by decide +kernel
theorem dL_about_3 : decode cL_about 3 = .ok (.iload_n 1, 1) := by decide +kernel
theorem dL_about_4 : decode cL_about 4 = .ok (.iload_n 2, 1) := by decide +kernel
theorem dL_about_5 : decode cL_about 5 = .ok (.invokevirtual 70, 3) := by decide +kernel
theorem dL_about_8 : decode cL_about 8 = .ok (.i2l, 1) := by decide +kernel
theorem dL_about_9 : decode cL_about 9 = .ok (.lastore, 1) := by decide +kernel
theorem dL_about_10 : decode cL_about 10 = .ok (.goto 7, 3) := by decide +kernel
theorem dL_about_13 : decode cL_about 13 = .ok (.astore 4, 2) := by decide +kernel
theorem dL_about_15 : decode cL_about 15 = .ok (.iconst 1, 1) := by decide +kernel
theorem dL_about_16 : decode cL_about 16 = .ok (.ireturn, 1) := by decide +kernel
theorem dL_about_17 : decode cL_about 17 = .ok (.iconst 0, 1) := by decide +kernel
theorem dL_about_18 : decode cL_about 18 = .ok (.ireturn, 1) := by decide +kernel
set_option maxRecDepth 20000 in
theorem ggL_engine_X3_engine : GoodIn wsL_engine wsX3_engine := goodIn_ca (goodIn_r _ [6, 7, 8, 9, 10, 11, 12, 13, 14, 15, 16, 17, 18, 19, 20, 21, 22, 23, 24, 25, 26, 27, 28, 29, 30, 31, 32, 33, 34, 35, 36, 37, 38] (by decide +kernel) (by decide +kernel)) (goodIn_sub (fun _ h => List.mem_cons_of_mem _ (List.mem_append_right _ h)) (by decide +kernel))
set_option maxRecDepth 20000 in
theorem gL_engine_X3_engine : GoodIn wsL_engine (wsV RL 74 RX3 yX3_engine wsX3_engine) := goodIn_app (goodIn_of _ (by decide +kernel)) ggL_engine_X3_engine
theorem dL_engine_0 : decode cL_engine 0 = .ok (.aload_n 2, 1) := by decide +kernel
theorem dL_engine_1 : decode cL_engine 1 = .ok (.iconst 0, 1) := by decide +kernel
theorem dL_engine_2 : decode cL_engine 2 = .ok (.aload_n 0, 1) := by decide +kernel
theorem dL_engine_3 : decode cL_engine 3 = .ok (.iload_n 1, 1) := by decide +kernel
theorem dL_engine_4 : decode cL_engine 4 = .ok (.invokevirtual 74, 3) := by decide +kernel
theorem dL_engine_7 : decode cL_engine 7 = .ok (.i2l, 1) := by decide +kernel
theorem dL_engine_8 : decode cL_engine 8 = .ok (.lastore, 1) := by decide +kernel
theorem dL_engine_9 : decode cL_engine 9 = .ok (.goto 6, 3) := by decide +kernel
theorem dL_engine_12 : decode cL_engine 12 = .ok (.astore_n 3, 1) := by decide +kernel
theorem dL_engine_13 : decode cL_engine 13 = .ok (.iconst 1, 1) := by decide +kernel
theorem dL_engine_14 : decode cL_engine 14 = .ok (.ireturn, 1) := by decide +kernel
theorem dL_engine_15 : decode cL_engine 15 = .ok (.iconst 0, 1) := by decide +kernel
theorem dL_engine_16 : decode cL_engine 16 = .ok (.ireturn, 1) := by decide +kernel
abbrev vwCl : List vw_C := [(RX0, TX0, 2), (RX1, TX1, 7), (RX2, TX2, 11), (RX3, TX3, 3), (RX4, TX4, 21)]
