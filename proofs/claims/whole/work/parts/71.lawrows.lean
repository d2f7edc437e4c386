theorem dL_compile_0 : decode cL_compile 0 = .ok (.aload_n 1, 1) := by decide +kernel
theorem dL_compile_1 : decode cL_compile 1 = .ok (.iconst 0, 1) := by decide +kernel
theorem dL_compile_2 : decode cL_compile 2 = .ok (.aload_n 0, 1) := by decide +kernel
theorem dL_compile_3 : decode cL_compile 3 = .ok (.invokevirtual 7, 3) := by decide +kernel
theorem dL_compile_6 : decode cL_compile 6 = .ok (.i2l, 1) := by decide +kernel
theorem dL_compile_7 : decode cL_compile 7 = .ok (.lastore, 1) := by decide +kernel
theorem dL_compile_8 : decode cL_compile 8 = .ok (.goto 6, 3) := by decide +kernel
theorem dL_compile_11 : decode cL_compile 11 = .ok (.astore_n 2, 1) := by decide +kernel
theorem dL_compile_12 : decode cL_compile 12 = .ok (.iconst 1, 1) := by decide +kernel
theorem dL_compile_13 : decode cL_compile 13 = .ok (.ireturn, 1) := by decide +kernel
theorem dL_compile_14 : decode cL_compile 14 = .ok (.iconst 0, 1) := by decide +kernel
theorem dL_compile_15 : decode cL_compile 15 = .ok (.ireturn, 1) := by decide +kernel
set_option maxRecDepth 20000 in
theorem ggL_run_X3_run : GoodIn wsL_run wsX3_run := goodIn_ca (goodIn_ca (goodIn_r _ [7, 8, 9, 10, 11, 12, 13, 14, 15, 16, 17, 18, 19, 20, 21, 22, 23, 24, 25, 26, 27, 28, 29, 30, 31, 32, 33, 34, 35, 36, 37, 38, 39, 40, 41, 42, 43, 44, 45, 46, 47, 48, 49, 50, 51, 52, 53, 54, 55, 56, 6, 57, 58, 59, 60, 61, 62, 63, 64, 65, 66, 67, 68, 69, 70, 71, 72, 73, 74, 75, 76, 77, 78, 79, 80, 81, 82, 83, 84, 85, 86, 87, 88, 89, 90, 91] (by decide +kernel) (by decide +kernel)) (goodIn_sub (fun _ h => List.mem_cons_of_mem _ (List.mem_append_left _ (List.mem_append_right _ h))) (by decide +kernel))) (goodIn_sub (fun _ h => List.mem_cons_of_mem _ (List.mem_append_right _ h)) (by decide +kernel))
set_option maxRecDepth 20000 in
theorem gL_run_X3_run : GoodIn wsL_run (wsV RL 15 RX3 yX3_run wsX3_run) := goodIn_app (goodIn_of _ (by decide +kernel)) ggL_run_X3_run
theorem dL_run_0 : decode cL_run 0 = .ok (.aload_n 1, 1) := by decide +kernel
theorem dL_run_1 : decode cL_run 1 = .ok (.iconst 0, 1) := by decide +kernel
theorem dL_run_2 : decode cL_run 2 = .ok (.aload_n 0, 1) := by decide +kernel
theorem dL_run_3 : decode cL_run 3 = .ok (.invokevirtual 15, 3) := by decide +kernel
theorem dL_run_6 : decode cL_run 6 = .ok (.i2l, 1) := by decide +kernel
theorem dL_run_7 : decode cL_run 7 = .ok (.lastore, 1) := by decide +kernel
theorem dL_run_8 : decode cL_run 8 = .ok (.goto 9, 3) := by decide +kernel
theorem dL_run_11 : decode cL_run 11 = .ok (.astore_n 2, 1) := by decide +kernel
theorem dL_run_12 : decode cL_run 12 = .ok (.iconst 1, 1) := by decide +kernel
theorem dL_run_13 : decode cL_run 13 = .ok (.ireturn, 1) := by decide +kernel
theorem dL_run_14 : decode cL_run 14 = .ok (.astore_n 2, 1) := by decide +kernel
theorem dL_run_15 : decode cL_run 15 = .ok (.iconst 2, 1) := by decide +kernel
theorem dL_run_16 : decode cL_run 16 = .ok (.ireturn, 1) := by decide +kernel
theorem dL_run_17 : decode cL_run 17 = .ok (.iconst 0, 1) := by decide +kernel
theorem dL_run_18 : decode cL_run 18 = .ok (.ireturn, 1) := by decide +kernel
set_option maxRecDepth 20000 in
theorem ggL_value_X3_value : GoodIn wsL_value wsX3_value := goodIn_ca (goodIn_r _ [6, 7, 8, 9, 10, 11, 12, 13, 14, 15, 16, 17, 18, 19, 20, 21] (by decide +kernel) (by decide +kernel)) (goodIn_sub (fun _ h => List.mem_cons_of_mem _ (List.mem_append_right _ h)) (by decide +kernel))
set_option maxRecDepth 20000 in
theorem gL_value_X3_value : GoodIn wsL_value (wsV RL 22 RX3 yX3_value wsX3_value) := goodIn_app (goodIn_of _ (by decide +kernel)) ggL_value_X3_value
theorem dL_value_0 : decode cL_value 0 = .ok (.aload_n 2, 1) := by decide +kernel
theorem dL_value_1 : decode cL_value 1 = .ok (.iconst 0, 1) := by decide +kernel
theorem dL_value_2 : decode cL_value 2 = .ok (.aload_n 0, 1) := by decide +kernel
theorem dL_value_3 : decode cL_value 3 = .ok (.iload_n 1, 1) := by decide +kernel
theorem dL_value_4 : decode cL_value 4 = .ok (.invokevirtual 22, 3) := by decide +kernel
theorem dL_value_7 : decode cL_value 7 = .ok (.i2l, 1) := by decide +kernel
theorem dL_value_8 : decode cL_value 8 = .ok (.lastore, 1) := by decide +kernel
theorem dL_value_9 : decode cL_value 9 = .ok (.goto 6, 3) := by decide +kernel
theorem dL_value_12 : decode cL_value 12 = .ok (.astore_n 3, 1) := by decide +kernel
theorem dL_value_13 : decode cL_value 13 = .ok (.iconst 1, 1) := by decide +kernel
theorem dL_value_14 : decode cL_value 14 = .ok (.ireturn, 1) := by decide +kernel
theorem dL_value_15 : decode cL_value 15 = .ok (.iconst 0, 1) := by decide +kernel
theorem dL_value_16 : decode cL_value 16 = .ok (.ireturn, 1) := by decide +kernel
set_option maxRecDepth 20000 in
theorem ggL_poke_X3_poke : GoodIn wsL_poke wsX3_poke := goodIn_ca (goodIn_r _ [6, 7, 8, 9, 10, 11, 5, 12, 13, 14, 15, 16, 17, 18, 19, 20, 21, 22, 23, 24] (by decide +kernel) (by decide +kernel)) (goodIn_sub (fun _ h => List.mem_cons_of_mem _ (List.mem_append_right _ h)) (by decide +kernel))
set_option maxRecDepth 20000 in
theorem gL_poke_X3_poke : GoodIn wsL_poke (wsV RL 26 RX3 yX3_poke wsX3_poke) := goodIn_app (goodIn_of _ (by decide +kernel)) ggL_poke_X3_poke
theorem dL_poke_0 : decode cL_poke 0 = .ok (.aload_n 0, 1) := by decide +kernel
theorem dL_poke_1 : decode cL_poke 1 = .ok (.iload_n 1, 1) := by decide +kernel
theorem dL_poke_2 : decode cL_poke 2 = .ok (.iload_n 2, 1) := by decide +kernel
theorem dL_poke_3 : decode cL_poke 3 = .ok (.invokevirtual 26, 3) := by decide +kernel
theorem dL_poke_6 : decode cL_poke 6 = .ok (.goto 6, 3) := by decide +kernel
theorem dL_poke_9 : decode cL_poke 9 = .ok (.astore_n 3, 1) := by decide +kernel
theorem dL_poke_10 : decode cL_poke 10 = .ok (.iconst 1, 1) := by decide +kernel
theorem dL_poke_11 : decode cL_poke 11 = .ok (.ireturn, 1) := by decide +kernel
theorem dL_poke_12 : decode cL_poke 12 = .ok (.iconst 0, 1) := by decide +kernel
theorem dL_poke_13 : decode cL_poke 13 = .ok (.ireturn, 1) := by decide +kernel
set_option maxRecDepth 20000 in
theorem ggL_peek_X3_peek : GoodIn wsL_peek wsX3_peek := goodIn_ca (goodIn_r _ [6, 7, 8, 9, 10, 11, 5, 12, 13, 14, 15, 16, 17, 18, 19, 20, 21, 22, 23, 24] (by decide +kernel) (by decide +kernel)) (goodIn_sub (fun _ h => List.mem_cons_of_mem _ (List.mem_append_right _ h)) (by decide +kernel))
set_option maxRecDepth 20000 in
theorem gL_peek_X3_peek : GoodIn wsL_peek (wsV RL 30 RX3 yX3_peek wsX3_peek) := goodIn_app (goodIn_of _ (by decide +kernel)) ggL_peek_X3_peek
theorem dL_peek_0 : decode cL_peek 0 = .ok (.aload_n 2, 1) := by decide +kernel
theorem dL_peek_1 : decode cL_peek 1 = .ok (.iconst 0, 1) := by decide +kernel
theorem dL_peek_2 : decode cL_peek 2 = .ok (.aload_n 0, 1) := by decide +kernel
theorem dL_peek_3 : decode cL_peek 3 = .ok (.iload_n 1, 1) := by decide +kernel
theorem dL_peek_4 : decode cL_peek 4 = .ok (.invokevirtual 30, 3) := by decide +kernel
theorem dL_peek_7 : decode cL_peek 7 = .ok (.i2l, 1) := by decide +kernel
theorem dL_peek_8 : decode cL_peek 8 = .ok (.lastore, 1) := by decide +kernel
theorem dL_peek_9 : decode cL_peek 9 = .ok (.goto 6, 3) := by decide +kernel
theorem dL_peek_12 : decode cL_peek 12 = .ok (.astore_n 3, 1) := by decide +kernel
theorem dL_peek_13 : decode cL_peek 13 = .ok (.iconst 1, 1) := by decide +kernel
theorem dL_peek_14 : decode cL_peek 14 = .ok (.ireturn, 1) := by decide +kernel
theorem dL_peek_15 : decode cL_peek 15 = .ok (.iconst 0, 1) := by decide +kernel
theorem dL_peek_16 : decode cL_peek 16 = .ok (.ireturn, 1) := by decide +kernel
set_option maxRecDepth 20000 in
theorem ggL_fill_X3_fill : GoodIn wsL_fill wsX3_fill := goodIn_ca (goodIn_r _ [6, 7, 8, 9, 10, 11, 12, 13, 14, 15, 16, 17, 18, 19, 20, 21] (by decide +kernel) (by decide +kernel)) (goodIn_sub (fun _ h => List.mem_cons_of_mem _ (List.mem_append_right _ h)) (by decide +kernel))
set_option maxRecDepth 20000 in
theorem gL_fill_X3_fill : GoodIn wsL_fill (wsV RL 33 RX3 yX3_fill wsX3_fill) := goodIn_app (goodIn_of _ (by decide +kernel)) ggL_fill_X3_fill
theorem dL_fill_0 : decode cL_fill 0 = .ok (.aload_n 0, 1) := by decide +kernel
theorem dL_fill_1 : decode cL_fill 1 = .ok (.iload_n 1, 1) := by decide +kernel
theorem dL_fill_2 : decode cL_fill 2 = .ok (.iload_n 2, 1) := by decide +kernel
theorem dL_fill_3 : decode cL_fill 3 = .ok (.iload_n 3, 1) := by decide +kernel
theorem dL_fill_4 : decode cL_fill 4 = .ok (.invokevirtual 33, 3) := by decide +kernel
theorem dL_fill_7 : decode cL_fill 7 = .ok (.goto 7, 3) := by decide +kernel
theorem dL_fill_10 : decode cL_fill 10 = .ok (.astore 4, 2) := by decide +kernel
theorem dL_fill_12 : decode cL_fill 12 = .ok (.iconst 1, 1) := by decide +kernel
theorem dL_fill_13 : decode cL_fill 13 = .ok (.ireturn, 1) := by decide +kernel
theorem dL_fill_14 : decode cL_fill 14 = .ok (.iconst 0, 1) := by decide +kernel
theorem dL_fill_15 : decode cL_fill 15 = .ok (.ireturn, 1) := by decide +kernel
