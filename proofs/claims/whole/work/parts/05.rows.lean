theorem dX1_name_10 : decode cX1_name 10 = .ok (.aload_n 0, 1) := by decide +kernel
theorem dX1_name_11 : decode cX1_name 11 = .ok (.getfield 21, 3) := by decide +kernel
theorem dX1_name_14 : decode cX1_name 14 = .ok (.iload_n 1, 1) := by decide +kernel
theorem dX1_name_15 : decode cX1_name 15 = .ok (.iload_n 2, 1) := by decide +kernel
theorem dX1_name_16 : decode cX1_name 16 = .ok (.iastore, 1) := by decide +kernel
theorem dX1_name_17 : decode cX1_name 17 = .ok (.return_, 1) := by decide +kernel
theorem dX1_push_0 : decode cX1_push 0 = .ok (.aload_n 0, 1) := by decide +kernel
theorem dX1_push_1 : decode cX1_push 1 = .ok (.getfield 39, 3) := by decide +kernel
theorem dX1_push_4 : decode cX1_push 4 = .ok (.aload_n 0, 1) := by decide +kernel
theorem dX1_push_5 : decode cX1_push 5 = .ok (.getfield 24, 3) := by decide +kernel
theorem dX1_push_8 : decode cX1_push 8 = .ok (.arraylength, 1) := by decide +kernel
theorem dX1_push_9 : decode cX1_push 9 = .ok (.if_icmp .ge 23, 3) := by decide +kernel
theorem dX1_push_12 : decode cX1_push 12 = .ok (.aload_n 0, 1) := by decide +kernel
theorem dX1_push_13 : decode cX1_push 13 = .ok (.getfield 24, 3) := by decide +kernel
theorem dX1_push_16 : decode cX1_push 16 = .ok (.aload_n 0, 1) := by decide +kernel
theorem dX1_push_17 : decode cX1_push 17 = .ok (.getfield 39, 3) := by decide +kernel
theorem dX1_push_20 : decode cX1_push 20 = .ok (.iload_n 1, 1) := by decide +kernel
theorem dX1_push_21 : decode cX1_push 21 = .ok (.iastore, 1) := by decide +kernel
theorem dX1_push_22 : decode cX1_push 22 = .ok (.aload_n 0, 1) := by decide +kernel
theorem dX1_push_23 : decode cX1_push 23 = .ok (.dup, 1) := by decide +kernel
theorem dX1_push_24 : decode cX1_push 24 = .ok (.getfield 39, 3) := by decide +kernel
theorem dX1_push_27 : decode cX1_push 27 = .ok (.iconst 1, 1) := by decide +kernel
theorem dX1_push_28 : decode cX1_push 28 = .ok (.iadd, 1) := by decide +kernel
theorem dX1_push_29 : decode cX1_push 29 = .ok (.putfield 39, 3) := by decide +kernel
theorem dX1_push_32 : decode cX1_push 32 = .ok (.return_, 1) := by decide +kernel
theorem dX1_pop_0 : decode cX1_pop 0 = .ok (.aload_n 0, 1) := by decide +kernel
theorem dX1_pop_1 : decode cX1_pop 1 = .ok (.getfield 39, 3) := by decide +kernel
theorem dX1_pop_4 : decode cX1_pop 4 = .ok (.ifCond .gt 5, 3) := by decide +kernel
theorem dX1_pop_7 : decode cX1_pop 7 = .ok (.iconst 0, 1) := by decide +kernel
theorem dX1_pop_8 : decode cX1_pop 8 = .ok (.ireturn, 1) := by decide +kernel
theorem dX1_pop_9 : decode cX1_pop 9 = .ok (.aload_n 0, 1) := by decide +kernel
theorem dX1_pop_10 : decode cX1_pop 10 = .ok (.dup, 1) := by decide +kernel
theorem dX1_pop_11 : decode cX1_pop 11 = .ok (.getfield 39, 3) := by decide +kernel
theorem dX1_pop_14 : decode cX1_pop 14 = .ok (.iconst 1, 1) := by decide +kernel
theorem dX1_pop_15 : decode cX1_pop 15 = .ok (.isub, 1) := by decide +kernel
theorem dX1_pop_16 : decode cX1_pop 16 = .ok (.putfield 39, 3) := by decide +kernel
theorem dX1_pop_19 : decode cX1_pop 19 = .ok (.aload_n 0, 1) := by decide +kernel
theorem dX1_pop_20 : decode cX1_pop 20 = .ok (.getfield 24, 3) := by decide +kernel
theorem dX1_pop_23 : decode cX1_pop 23 = .ok (.aload_n 0, 1) := by decide +kernel
theorem dX1_pop_24 : decode cX1_pop 24 = .ok (.getfield 39, 3) := by decide +kernel
theorem dX1_pop_27 : decode cX1_pop 27 = .ok (.iaload, 1) := by decide +kernel
theorem dX1_pop_28 : decode cX1_pop 28 = .ok (.ireturn, 1) := by decide +kernel
set_option maxRecDepth 20000 in
theorem ggX2_init_X0_init : GoodIn wsX2_init wsX0_init := goodIn_r _ [11, 12, 2, 3, 13, 14, 15, 16, 25, 26, 27, 28, 29, 30] (by decide +kernel) (by decide +kernel)
set_option maxRecDepth 20000 in
theorem gX2_init_X0_init_n17 : GoodIn wsX2_init (wsX0_init) := ggX2_init_X0_init
theorem dX2_init_0 : decode cX2_init 0 = .ok (.aload_n 0, 1) := by decide +kernel
theorem dX2_init_1 : decode cX2_init 1 = .ok (.invokespecial 3, 3) := by decide +kernel
theorem dX2_init_4 : decode cX2_init 4 = .ok (.aload_n 0, 1) := by decide +kernel
theorem dX2_init_5 : decode cX2_init 5 = .ok (.sipush 480, 3) := by decide +kernel
theorem dX2_init_8 : decode cX2_init 8 = .ok (.newarray .char, 2) := by decide +kernel
theorem dX2_init_10 : decode cX2_init 10 = .ok (.putfield 9, 3) := by decide +kernel
theorem dX2_init_13 : decode cX2_init 13 = .ok (.aload_n 0, 1) := by decide +kernel
theorem dX2_init_14 : decode cX2_init 14 = .ok (.new 15, 3) := by decide +kernel
theorem dX2_init_17 : decode cX2_init 17 = .ok (.dup, 1) := by decide +kernel
theorem dX2_init_18 : decode cX2_init 18 = .ok (.invokespecial 17, 3) := by decide +kernel
theorem dX2_init_21 : decode cX2_init 21 = .ok (.putfield 18, 3) := by decide +kernel
theorem dX2_init_24 : decode cX2_init 24 = .ok (.return_, 1) := by decide +kernel
theorem dX2_append_0 : decode cX2_append 0 = .ok (.aload_n 0, 1) := by decide +kernel
theorem dX2_append_1 : decode cX2_append 1 = .ok (.getfield 22, 3) := by decide +kernel
theorem dX2_append_4 : decode cX2_append 4 = .ok (.aload_n 0, 1) := by decide +kernel
theorem dX2_append_5 : decode cX2_append 5 = .ok (.getfield 9, 3) := by decide +kernel
theorem dX2_append_8 : decode cX2_append 8 = .ok (.arraylength, 1) := by decide +kernel
theorem dX2_append_9 : decode cX2_append 9 = .ok (.if_icmp .ge 24, 3) := by decide +kernel
theorem dX2_append_12 : decode cX2_append 12 = .ok (.aload_n 0, 1) := by decide +kernel
theorem dX2_append_13 : decode cX2_append 13 = .ok (.getfield 9, 3) := by decide +kernel
theorem dX2_append_16 : decode cX2_append 16 = .ok (.aload_n 0, 1) := by decide +kernel
theorem dX2_append_17 : decode cX2_append 17 = .ok (.getfield 22, 3) := by decide +kernel
theorem dX2_append_20 : decode cX2_append 20 = .ok (.iload_n 1, 1) := by decide +kernel
theorem dX2_append_21 : decode cX2_append 21 = .ok (.i2c, 1) := by decide +kernel
theorem dX2_append_22 : decode cX2_append 22 = .ok (.castore, 1) := by decide +kernel
theorem dX2_append_23 : decode cX2_append 23 = .ok (.aload_n 0, 1) := by decide +kernel
theorem dX2_append_24 : decode cX2_append 24 = .ok (.dup, 1) := by decide +kernel
theorem dX2_append_25 : decode cX2_append 25 = .ok (.getfield 22, 3) := by decide +kernel
theorem dX2_append_28 : decode cX2_append 28 = .ok (.iconst 1, 1) := by decide +kernel
theorem dX2_append_29 : decode cX2_append 29 = .ok (.iadd, 1) := by decide +kernel
theorem dX2_append_30 : decode cX2_append 30 = .ok (.putfield 22, 3) := by decide +kernel
theorem dX2_append_33 : decode cX2_append 33 = .ok (.return_, 1) := by decide +kernel
theorem dX2_exchanged_0 : decode cX2_exchanged 0 = .ok (.aload_n 0, 1) := by decide +kernel
theorem dX2_exchanged_1 : decode cX2_exchanged 1 = .ok (.getfield 18, 3) := by decide +kernel
theorem dX2_exchanged_4 : decode cX2_exchanged 4 = .ok (.astore_n 2, 1) := by decide +kernel
theorem dX2_exchanged_5 : decode cX2_exchanged 5 = .ok (.aload_n 0, 1) := by decide +kernel
theorem dX2_exchanged_6 : decode cX2_exchanged 6 = .ok (.aload_n 1, 1) := by decide +kernel
theorem dX2_exchanged_7 : decode cX2_exchanged 7 = .ok (.putfield 18, 3) := by decide +kernel
theorem dX2_exchanged_10 : decode cX2_exchanged 10 = .ok (.aload_n 2, 1) := by decide +kernel
theorem dX2_exchanged_11 : decode cX2_exchanged 11 = .ok (.areturn, 1) := by decide +kernel
set_option maxRecDepth 20000 in
theorem ggX2_readText_X0_empty : GoodIn wsX2_readText wsX0_empty := goodIn_r _ [9, 10, 11, 12, 126, 127, 128, 129, 130, 131] (by decide +kernel) (by decide +kernel)
set_option maxRecDepth 20000 in
theorem gX2_readText_X0_empty_n26 : GoodIn wsX2_readText (wsX0_empty) := ggX2_readText_X0_empty
set_option maxRecDepth 20000 in
theorem ggX2_readText_X2_readProgram : GoodIn wsX2_readText wsX2_readProgram := goodIn_r _ [17, 1, 18, 19, 20, 16, 21, 2, 22, 23, 24, 25, 26, 27, 28, 29, 30, 31, 32, 33, 34, 35, 3, 13, 14, 15, 36, 37, 38, 39, 40, 41, 42, 43, 44, 45, 46, 47, 7, 48, 49, 10, 50, 12, 51, 52, 53, 54, 55, 56, 57, 58, 59, 60, 61, 62, 63, 64, 65, 66, 67, 68, 69, 70, 71, 72, 73, 74, 75, 76, 77, 78, 79, 80, 81, 82, 83, 84, 85, 86, 87, 88, 89, 90, 91, 92, 93, 94, 95, 96, 97, 98, 5, 4, 99, 100, 101, 102, 103, 104, 105, 106, 107, 108, 109, 110, 111, 112, 113, 114, 115, 116, 117, 118, 119, 120, 121, 122, 123, 124, 125, 126, 127, 128, 129, 130, 131] (by decide +kernel) (by decide +kernel)
set_option maxRecDepth 20000 in
theorem gX2_readText_X2_readProgram : GoodIn wsX2_readText (wsV RX2 41 RX2 yX2_readProgram wsX2_readProgram) := goodIn_app (goodIn_of _ (by decide +kernel)) ggX2_readText_X2_readProgram
set_option maxRecDepth 20000 in
theorem ggX2_readText_X2_expect : GoodIn wsX2_readText wsX2_expect := goodIn_r _ [31, 2, 18, 19, 20, 16, 21, 22, 23, 32, 33, 34, 35, 3, 118, 119, 120, 121, 122, 123, 124, 125] (by decide +kernel) (by decide +kernel)
set_option maxRecDepth 20000 in
theorem gX2_readText_X2_expect : GoodIn wsX2_readText (wsV RX2 45 RX2 yX2_expect wsX2_expect) := goodIn_app (goodIn_of _ (by decide +kernel)) ggX2_readText_X2_expect
theorem dX2_readText_0 : decode cX2_readText 0 = .ok (.aload_n 0, 1) := by decide +kernel
theorem dX2_readText_1 : decode cX2_readText 1 = .ok (.getfield 18, 3) := by decide +kernel
theorem dX2_readText_4 : decode cX2_readText 4 = .ok (.invokevirtual 26, 3) := by decide +kernel
theorem dX2_readText_7 : decode cX2_readText 7 = .ok (.aload_n 0, 1) := by decide +kernel
theorem dX2_readText_8 : decode cX2_readText 8 = .ok (.iconst 0, 1) := by decide +kernel
theorem dX2_readText_9 : decode cX2_readText 9 = .ok (.putfield 29, 3) := by decide +kernel
theorem dX2_readText_12 : decode cX2_readText 12 = .ok (.aload_n 0, 1) := by decide +kernel
theorem dX2_readText_13 : decode cX2_readText 13 = .ok (.iconst 0, 1) := by decide +kernel
theorem dX2_readText_14 : decode cX2_readText 14 = .ok (.putfield 32, 3) := by decide +kernel
theorem dX2_readText_17 : decode cX2_readText 17 = .ok (.aload_n 0, 1) := by decide +kernel
theorem dX2_readText_18 : decode cX2_readText 18 = .ok (.iconst 0, 1) := by decide +kernel
theorem dX2_readText_19 : decode cX2_readText 19 = .ok (.putfield 35, 3) := by decide +kernel
theorem dX2_readText_22 : decode cX2_readText 22 = .ok (.aload_n 0, 1) := by decide +kernel
theorem dX2_readText_23 : decode cX2_readText 23 = .ok (.iconst 1, 1) := by decide +kernel
theorem dX2_readText_24 : decode cX2_readText 24 = .ok (.putfield 38, 3) := by decide +kernel
theorem dX2_readText_27 : decode cX2_readText 27 = .ok (.aload_n 0, 1) := by decide +kernel
theorem dX2_readText_28 : decode cX2_readText 28 = .ok (.iconst 0, 1) := by decide +kernel
theorem dX2_readText_29 : decode cX2_readText 29 = .ok (.invokevirtual 41, 3) := by decide +kernel
theorem dX2_readText_32 : decode cX2_readText 32 = .ok (.ifCond .eq 15, 3) := by decide +kernel
theorem dX2_readText_35 : decode cX2_readText 35 = .ok (.aload_n 0, 1) := by decide +kernel
theorem dX2_readText_36 : decode cX2_readText 36 = .ok (.iconst 0, 1) := by decide +kernel
theorem dX2_readText_37 : decode cX2_readText 37 = .ok (.invokevirtual 45, 3) := by decide +kernel
theorem dX2_readText_40 : decode cX2_readText 40 = .ok (.ifCond .eq 7, 3) := by decide +kernel
theorem dX2_readText_43 : decode cX2_readText 43 = .ok (.iconst 1, 1) := by decide +kernel
theorem dX2_readText_44 : decode cX2_readText 44 = .ok (.goto 4, 3) := by decide +kernel
theorem dX2_readText_47 : decode cX2_readText 47 = .ok (.iconst 0, 1) := by decide +kernel
theorem dX2_readText_48 : decode cX2_readText 48 = .ok (.ireturn, 1) := by decide +kernel
theorem dX2_here_0 : decode cX2_here 0 = .ok (.aload_n 0, 1) := by decide +kernel
theorem dX2_here_1 : decode cX2_here 1 = .ok (.getfield 29, 3) := by decide +kernel
theorem dX2_here_4 : decode cX2_here 4 = .ok (.aload_n 0, 1) := by decide +kernel
theorem dX2_here_5 : decode cX2_here 5 = .ok (.getfield 22, 3) := by decide +kernel
theorem dX2_here_8 : decode cX2_here 8 = .ok (.if_icmp .ge 27, 3) := by decide +kernel
theorem dX2_here_11 : decode cX2_here 11 = .ok (.aload_n 0, 1) := by decide +kernel
theorem dX2_here_12 : decode cX2_here 12 = .ok (.getfield 29, 3) := by decide +kernel
theorem dX2_here_15 : decode cX2_here 15 = .ok (.aload_n 0, 1) := by decide +kernel
theorem dX2_here_16 : decode cX2_here 16 = .ok (.getfield 9, 3) := by decide +kernel
theorem dX2_here_19 : decode cX2_here 19 = .ok (.arraylength, 1) := by decide +kernel
theorem dX2_here_20 : decode cX2_here 20 = .ok (.if_icmp .ge 15, 3) := by decide +kernel
theorem dX2_here_23 : decode cX2_here 23 = .ok (.aload_n 0, 1) := by decide +kernel
theorem dX2_here_24 : decode cX2_here 24 = .ok (.getfield 9, 3) := by decide +kernel
theorem dX2_here_27 : decode cX2_here 27 = .ok (.aload_n 0, 1) := by decide +kernel
theorem dX2_here_28 : decode cX2_here 28 = .ok (.getfield 29, 3) := by decide +kernel
theorem dX2_here_31 : decode cX2_here 31 = .ok (.caload, 1) := by decide +kernel
theorem dX2_here_32 : decode cX2_here 32 = .ok (.goto 4, 3) := by decide +kernel
theorem dX2_here_35 : decode cX2_here 35 = .ok (.iconst 0, 1) := by decide +kernel
theorem dX2_here_36 : decode cX2_here 36 = .ok (.ireturn, 1) := by decide +kernel
theorem dX2_refuse_0 : decode cX2_refuse 0 = .ok (.aload_n 0, 1) := by decide +kernel
theorem dX2_refuse_1 : decode cX2_refuse 1 = .ok (.iload_n 1, 1) := by decide +kernel
theorem dX2_refuse_2 : decode cX2_refuse 2 = .ok (.iconst 1, 1) := by decide +kernel
theorem dX2_refuse_3 : decode cX2_refuse 3 = .ok (.iadd, 1) := by decide +kernel
theorem dX2_refuse_4 : decode cX2_refuse 4 = .ok (.putfield 32, 3) := by decide +kernel
theorem dX2_refuse_7 : decode cX2_refuse 7 = .ok (.iconst 0, 1) := by decide +kernel
theorem dX2_refuse_8 : decode cX2_refuse 8 = .ok (.ireturn, 1) := by decide +kernel
set_option maxRecDepth 20000 in
theorem ggX2_expect_X2_here : GoodIn wsX2_expect wsX2_here := goodIn_r _ [6, 1, 7, 8, 14, 15, 16, 17, 18, 19, 20, 21] (by decide +kernel) (by decide +kernel)
set_option maxRecDepth 20000 in
theorem gX2_expect_X2_here : GoodIn wsX2_expect (wsV RX2 48 RX2 yX2_here wsX2_here) := goodIn_app (goodIn_of _ (by decide +kernel)) ggX2_expect_X2_here
set_option maxRecDepth 20000 in
theorem ggX2_expect_X2_refuse : GoodIn wsX2_expect wsX2_refuse := goodIn_r _ [12, 13, 14, 15, 16, 17, 18, 19, 20, 21] (by decide +kernel) (by decide +kernel)
set_option maxRecDepth 20000 in
theorem gX2_expect_X2_refuse : GoodIn wsX2_expect (wsV RX2 52 RX2 yX2_refuse wsX2_refuse) := goodIn_app (goodIn_of _ (by decide +kernel)) ggX2_expect_X2_refuse
theorem dX2_expect_0 : decode cX2_expect 0 = .ok (.aload_n 0, 1) := by decide +kernel
theorem dX2_expect_1 : decode cX2_expect 1 = .ok (.invokevirtual 48, 3) := by decide +kernel
theorem dX2_expect_4 : decode cX2_expect 4 = .ok (.iload_n 1, 1) := by decide +kernel
theorem dX2_expect_5 : decode cX2_expect 5 = .ok (.if_icmp .eq 12, 3) := by decide +kernel
theorem dX2_expect_8 : decode cX2_expect 8 = .ok (.aload_n 0, 1) := by decide +kernel
theorem dX2_expect_9 : decode cX2_expect 9 = .ok (.aload_n 0, 1) := by decide +kernel
theorem dX2_expect_10 : decode cX2_expect 10 = .ok (.getfield 29, 3) := by decide +kernel
theorem dX2_expect_13 : decode cX2_expect 13 = .ok (.invokevirtual 52, 3) := by decide +kernel
theorem dX2_expect_16 : decode cX2_expect 16 = .ok (.ireturn, 1) := by decide +kernel
theorem dX2_expect_17 : decode cX2_expect 17 = .ok (.aload_n 0, 1) := by decide +kernel
theorem dX2_expect_18 : decode cX2_expect 18 = .ok (.dup, 1) := by decide +kernel
theorem dX2_expect_19 : decode cX2_expect 19 = .ok (.getfield 29, 3) := by decide +kernel
theorem dX2_expect_22 : decode cX2_expect 22 = .ok (.iconst 1, 1) := by decide +kernel
theorem dX2_expect_23 : decode cX2_expect 23 = .ok (.iadd, 1) := by decide +kernel
theorem dX2_expect_24 : decode cX2_expect 24 = .ok (.putfield 29, 3) := by decide +kernel
theorem dX2_expect_27 : decode cX2_expect 27 = .ok (.iconst 1, 1) := by decide +kernel
theorem dX2_expect_28 : decode cX2_expect 28 = .ok (.ireturn, 1) := by decide +kernel
set_option maxRecDepth 20000 in
theorem ggX2_readProgram_X2_here : GoodIn wsX2_readProgram wsX2_here := goodIn_r _ [6, 7, 8, 9, 113, 114, 115, 116, 117, 118, 119, 120] (by decide +kernel) (by decide +kernel)
set_option maxRecDepth 20000 in
theorem gX2_readProgram_X2_here : GoodIn wsX2_readProgram (wsV RX2 48 RX2 yX2_here wsX2_here) := goodIn_app (goodIn_of _ (by decide +kernel)) ggX2_readProgram_X2_here
set_option maxRecDepth 20000 in
theorem ggX2_readProgram_X2_readStatement : GoodIn wsX2_readProgram wsX2_readStatement := goodIn_r _ [98, 7, 2, 3, 4, 5, 6, 8, 9, 99, 100, 101, 102, 1, 14, 15, 16, 17, 18, 19, 20, 21, 22, 27, 28, 29, 30, 31, 32, 33, 34, 35, 36, 37, 38, 39, 40, 41, 42, 43, 44, 45, 46, 47, 48, 49, 50, 51, 52, 53, 54, 55, 56, 57, 58, 59, 60, 61, 62, 63, 64, 65, 66, 67, 68, 69, 70, 71, 72, 73, 74, 75, 76, 77, 78, 79, 80, 81, 82, 83, 103, 104, 105, 106, 107, 108, 109, 110, 111, 112, 94, 95, 96, 97, 93, 13, 23, 24, 25, 26, 84, 85, 86, 87, 88, 89, 90, 91, 92, 0, 10, 11, 12, 113, 114, 115, 116, 117, 118, 119, 120, 121, 122, 123, 124, 125, 126] (by decide +kernel) (by decide +kernel)
set_option maxRecDepth 20000 in
theorem gX2_readProgram_X2_readStatement : GoodIn wsX2_readProgram (wsV RX2 58 RX2 yX2_readStatement wsX2_readStatement) := goodIn_app (goodIn_of _ (by decide +kernel)) ggX2_readProgram_X2_readStatement
theorem dX2_readProgram_0 : decode cX2_readProgram 0 = .ok (.iconst 0, 1) := by decide +kernel
theorem dX2_readProgram_1 : decode cX2_readProgram 1 = .ok (.istore_n 2, 1) := by decide +kernel
theorem dX2_readProgram_2 : decode cX2_readProgram 2 = .ok (.iload_n 2, 1) := by decide +kernel
theorem dX2_readProgram_3 : decode cX2_readProgram 3 = .ok (.sipush 480, 3) := by decide +kernel
theorem dX2_readProgram_6 : decode cX2_readProgram 6 = .ok (.if_icmp .ge 48, 3) := by decide +kernel
theorem dX2_readProgram_9 : decode cX2_readProgram 9 = .ok (.aload_n 0, 1) := by decide +kernel
theorem dX2_readProgram_10 : decode cX2_readProgram 10 = .ok (.invokevirtual 48, 3) := by decide +kernel
theorem dX2_readProgram_13 : decode cX2_readProgram 13 = .ok (.ifCond .eq 41, 3) := by decide +kernel
theorem dX2_readProgram_16 : decode cX2_readProgram 16 = .ok (.aload_n 0, 1) := by decide +kernel
theorem dX2_readProgram_17 : decode cX2_readProgram 17 = .ok (.invokevirtual 48, 3) := by decide +kernel
theorem dX2_readProgram_20 : decode cX2_readProgram 20 = .ok (.bipush 125, 2) := by decide +kernel
theorem dX2_readProgram_22 : decode cX2_readProgram 22 = .ok (.if_icmp .eq 32, 3) := by decide +kernel
theorem dX2_readProgram_25 : decode cX2_readProgram 25 = .ok (.aload_n 0, 1) := by decide +kernel
theorem dX2_readProgram_26 : decode cX2_readProgram 26 = .ok (.getfield 18, 3) := by decide +kernel
theorem dX2_readProgram_29 : decode cX2_readProgram 29 = .ok (.dup, 1) := by decide +kernel
theorem dX2_readProgram_30 : decode cX2_readProgram 30 = .ok (.getfield 55, 3) := by decide +kernel
theorem dX2_readProgram_33 : decode cX2_readProgram 33 = .ok (.iconst 1, 1) := by decide +kernel
theorem dX2_readProgram_34 : decode cX2_readProgram 34 = .ok (.iadd, 1) := by decide +kernel
theorem dX2_readProgram_35 : decode cX2_readProgram 35 = .ok (.putfield 55, 3) := by decide +kernel
theorem dX2_readProgram_38 : decode cX2_readProgram 38 = .ok (.aload_n 0, 1) := by decide +kernel
theorem dX2_readProgram_39 : decode cX2_readProgram 39 = .ok (.iload_n 1, 1) := by decide +kernel
theorem dX2_readProgram_40 : decode cX2_readProgram 40 = .ok (.invokevirtual 58, 3) := by decide +kernel
theorem dX2_readProgram_43 : decode cX2_readProgram 43 = .ok (.ifCond .ne 5, 3) := by decide +kernel
theorem dX2_readProgram_46 : decode cX2_readProgram 46 = .ok (.iconst 0, 1) := by decide +kernel
theorem dX2_readProgram_47 : decode cX2_readProgram 47 = .ok (.ireturn, 1) := by decide +kernel
theorem dX2_readProgram_48 : decode cX2_readProgram 48 = .ok (.iinc 2 1, 3) := by decide +kernel
theorem dX2_readProgram_51 : decode cX2_readProgram 51 = .ok (.goto (-49), 3) := by decide +kernel
theorem dX2_readProgram_54 : decode cX2_readProgram 54 = .ok (.iconst 1, 1) := by decide +kernel
theorem dX2_readProgram_55 : decode cX2_readProgram 55 = .ok (.ireturn, 1) := by decide +kernel
set_option maxRecDepth 20000 in
theorem ggX2_readStatement_X2_here : GoodIn wsX2_readStatement wsX2_here := goodIn_r _ [6, 1, 7, 8, 113, 114, 115, 116, 117, 118, 119, 120] (by decide +kernel) (by decide +kernel)
set_option maxRecDepth 20000 in
theorem gX2_readStatement_X2_here : GoodIn wsX2_readStatement (wsV RX2 48 RX2 yX2_here wsX2_here) := goodIn_app (goodIn_of _ (by decide +kernel)) ggX2_readStatement_X2_here
set_option maxRecDepth 20000 in
theorem ggX2_readStatement_X2_readStore : GoodIn wsX2_readStatement wsX2_readStore := goodIn_r _ [12, 1, 13, 14, 15, 16, 5, 17, 2, 3, 4, 6, 7, 8, 18, 19, 20, 21, 22, 23, 24, 25, 26, 27, 28, 29, 30, 31, 32, 33, 34, 35, 36, 37, 38, 39, 40, 41, 42, 43, 44, 45, 46, 47, 48, 49, 50, 51, 52, 53, 54, 55, 56, 57, 58, 59, 60, 61, 62, 63, 64, 65, 66, 67, 68, 69, 70, 71, 72, 73, 74, 75, 76, 77, 78, 79, 113, 114, 115, 116, 117, 118, 119, 120, 121, 122, 123, 124, 125, 126] (by decide +kernel) (by decide +kernel)
set_option maxRecDepth 20000 in
theorem gX2_readStatement_X2_readStore : GoodIn wsX2_readStatement (wsV RX2 61 RX2 yX2_readStore wsX2_readStore) := goodIn_app (goodIn_of _ (by decide +kernel)) ggX2_readStatement_X2_readStore
set_option maxRecDepth 20000 in
theorem ggX2_readStatement_X2_readLoop : GoodIn wsX2_readStatement wsX2_readLoop := goodIn_r _ [106, 1, 107, 55, 108, 13, 94, 90, 91, 92, 5, 93, 2, 3, 4, 6, 7, 8, 56, 57, 58, 18, 19, 20, 21, 22, 62, 63, 64, 65, 66, 67, 68, 49, 34, 50, 51, 37, 44, 38, 52, 100, 101, 102, 95, 14, 15, 16, 17, 96, 97, 98, 99, 23, 24, 25, 26, 27, 28, 29, 30, 31, 32, 33, 35, 36, 39, 40, 41, 42, 43, 45, 46, 47, 48, 53, 54, 59, 60, 61, 69, 70, 71, 72, 73, 74, 75, 76, 77, 78, 79, 103, 104, 105, 109, 110, 111, 112, 0, 9, 10, 11, 12, 80, 81, 82, 83, 84, 85, 86, 87, 88, 89, 113, 114, 115, 116, 117, 118, 119, 120, 121, 122, 123, 124, 125, 126] (by decide +kernel) (by decide +kernel)
set_option maxRecDepth 20000 in
theorem gX2_readStatement_X2_readLoop : GoodIn wsX2_readStatement (wsV RX2 65 RX2 yX2_readLoop wsX2_readLoop) := goodIn_app (goodIn_of _ (by decide +kernel)) ggX2_readStatement_X2_readLoop
set_option maxRecDepth 20000 in
theorem ggX2_readStatement_X2_refuse : GoodIn wsX2_readStatement wsX2_refuse := goodIn_r _ [21, 22, 113, 114, 115, 116, 117, 118, 119, 120] (by decide +kernel) (by decide +kernel)
set_option maxRecDepth 20000 in
theorem gX2_readStatement_X2_refuse : GoodIn wsX2_readStatement (wsV RX2 52 RX2 yX2_refuse wsX2_refuse) := goodIn_app (goodIn_of _ (by decide +kernel)) ggX2_readStatement_X2_refuse
set_option maxRecDepth 20000 in
theorem ggX2_readStatement_X2_readBranch : GoodIn wsX2_readStatement wsX2_readBranch := goodIn_r _ [99, 1, 13, 23, 24, 25, 5, 26, 27, 28, 29, 2, 3, 4, 6, 7, 8, 30, 31, 32, 33, 34, 35, 36, 37, 38, 39, 40, 41, 42, 43, 44, 45, 46, 47, 48, 49, 50, 51, 52, 53, 54, 55, 56, 57, 58, 59, 60, 61, 18, 19, 20, 21, 22, 62, 63, 64, 65, 66, 67, 68, 69, 14, 15, 16, 17, 70, 71, 72, 73, 74, 75, 76, 77, 78, 79, 100, 101, 102, 103, 104, 105, 95, 96, 97, 98, 106, 107, 108, 94, 90, 91, 92, 93, 109, 110, 111, 112, 0, 9, 10, 11, 12, 80, 81, 82, 83, 84, 85, 86, 87, 88, 89, 113, 114, 115, 116, 117, 118, 119, 120, 121, 122, 123, 124, 125, 126] (by decide +kernel) (by decide +kernel)
set_option maxRecDepth 20000 in
theorem gX2_readStatement_X2_readBranch : GoodIn wsX2_readStatement (wsV RX2 68 RX2 yX2_readBranch wsX2_readBranch) := goodIn_app (goodIn_of _ (by decide +kernel)) ggX2_readStatement_X2_readBranch
set_option maxRecDepth 20000 in
theorem ggX2_readStatement_X2_readSet : GoodIn wsX2_readStatement wsX2_readSet := goodIn_r _ [89, 1, 13, 90, 91, 92, 5, 93, 94, 2, 3, 4, 6, 7, 8, 56, 57, 58, 18, 19, 20, 21, 22, 14, 15, 16, 17, 23, 24, 25, 26, 27, 28, 29, 30, 31, 32, 33, 34, 35, 36, 37, 38, 39, 40, 41, 42, 43, 44, 45, 46, 47, 48, 49, 50, 51, 52, 53, 54, 55, 59, 60, 61, 62, 63, 64, 65, 66, 67, 68, 69, 70, 71, 72, 73, 74, 75, 76, 77, 78, 79, 113, 114, 115, 116, 117, 118, 119, 120, 121, 122, 123, 124, 125, 126] (by decide +kernel) (by decide +kernel)
set_option maxRecDepth 20000 in
theorem gX2_readStatement_X2_readSet : GoodIn wsX2_readStatement (wsV RX2 71 RX2 yX2_readSet wsX2_readSet) := goodIn_app (goodIn_of _ (by decide +kernel)) ggX2_readStatement_X2_readSet
theorem dX2_readStatement_0 : decode cX2_readStatement 0 = .ok (.aload_n 0, 1) := by decide +kernel
theorem dX2_readStatement_1 : decode cX2_readStatement 1 = .ok (.invokevirtual 48, 3) := by decide +kernel
theorem dX2_readStatement_4 : decode cX2_readStatement 4 = .ok (.lookupswitch 87 #[(35, 41), (63, 64), (64, 36)], 36) := by decide +kernel
theorem dX2_readStatement_40 : decode cX2_readStatement 40 = .ok (.aload_n 0, 1) := by decide +kernel
theorem dX2_readStatement_41 : decode cX2_readStatement 41 = .ok (.invokevirtual 61, 3) := by decide +kernel
theorem dX2_readStatement_44 : decode cX2_readStatement 44 = .ok (.ireturn, 1) := by decide +kernel
theorem dX2_readStatement_45 : decode cX2_readStatement 45 = .ok (.iload_n 1, 1) := by decide +kernel
theorem dX2_readStatement_46 : decode cX2_readStatement 46 = .ok (.bipush 8, 2) := by decide +kernel
theorem dX2_readStatement_48 : decode cX2_readStatement 48 = .ok (.if_icmp .ge 11, 3) := by decide +kernel
theorem dX2_readStatement_51 : decode cX2_readStatement 51 = .ok (.aload_n 0, 1) := by decide +kernel
theorem dX2_readStatement_52 : decode cX2_readStatement 52 = .ok (.iload_n 1, 1) := by decide +kernel
theorem dX2_readStatement_53 : decode cX2_readStatement 53 = .ok (.invokevirtual 65, 3) := by decide +kernel
theorem dX2_readStatement_56 : decode cX2_readStatement 56 = .ok (.goto 11, 3) := by decide +kernel
theorem dX2_readStatement_59 : decode cX2_readStatement 59 = .ok (.aload_n 0, 1) := by decide +kernel
theorem dX2_readStatement_60 : decode cX2_readStatement 60 = .ok (.aload_n 0, 1) := by decide +kernel
theorem dX2_readStatement_61 : decode cX2_readStatement 61 = .ok (.getfield 29, 3) := by decide +kernel
theorem dX2_readStatement_64 : decode cX2_readStatement 64 = .ok (.invokevirtual 52, 3) := by decide +kernel
theorem dX2_readStatement_67 : decode cX2_readStatement 67 = .ok (.ireturn, 1) := by decide +kernel
theorem dX2_readStatement_68 : decode cX2_readStatement 68 = .ok (.iload_n 1, 1) := by decide +kernel
theorem dX2_readStatement_69 : decode cX2_readStatement 69 = .ok (.bipush 8, 2) := by decide +kernel
theorem dX2_readStatement_71 : decode cX2_readStatement 71 = .ok (.if_icmp .ge 11, 3) := by decide +kernel
theorem dX2_readStatement_74 : decode cX2_readStatement 74 = .ok (.aload_n 0, 1) := by decide +kernel
theorem dX2_readStatement_75 : decode cX2_readStatement 75 = .ok (.iload_n 1, 1) := by decide +kernel
theorem dX2_readStatement_76 : decode cX2_readStatement 76 = .ok (.invokevirtual 68, 3) := by decide +kernel
theorem dX2_readStatement_79 : decode cX2_readStatement 79 = .ok (.goto 11, 3) := by decide +kernel
theorem dX2_readStatement_82 : decode cX2_readStatement 82 = .ok (.aload_n 0, 1) := by decide +kernel
theorem dX2_readStatement_83 : decode cX2_readStatement 83 = .ok (.aload_n 0, 1) := by decide +kernel
theorem dX2_readStatement_84 : decode cX2_readStatement 84 = .ok (.getfield 29, 3) := by decide +kernel
theorem dX2_readStatement_87 : decode cX2_readStatement 87 = .ok (.invokevirtual 52, 3) := by decide +kernel
theorem dX2_readStatement_90 : decode cX2_readStatement 90 = .ok (.ireturn, 1) := by decide +kernel
theorem dX2_readStatement_91 : decode cX2_readStatement 91 = .ok (.aload_n 0, 1) := by decide +kernel
theorem dX2_readStatement_92 : decode cX2_readStatement 92 = .ok (.invokevirtual 71, 3) := by decide +kernel
theorem dX2_readStatement_95 : decode cX2_readStatement 95 = .ok (.ireturn, 1) := by decide +kernel
set_option maxRecDepth 20000 in
theorem ggX2_readSet_X2_freeName : GoodIn wsX2_readSet wsX2_freeName := goodIn_r _ [7, 8, 9, 10, 11, 6, 12, 1, 13, 14, 15, 16, 17, 81, 82, 83, 84, 85, 86, 87, 88] (by decide +kernel) (by decide +kernel)
set_option maxRecDepth 20000 in
theorem gX2_readSet_X2_freeName : GoodIn wsX2_readSet (wsV RX2 74 RX2 yX2_freeName wsX2_freeName) := goodIn_app (goodIn_of _ (by decide +kernel)) ggX2_readSet_X2_freeName
set_option maxRecDepth 20000 in
theorem ggX2_readSet_X2_refuse : GoodIn wsX2_readSet wsX2_refuse := goodIn_r _ [21, 22, 81, 82, 83, 84, 85, 86, 87, 88] (by decide +kernel) (by decide +kernel)
set_option maxRecDepth 20000 in
theorem gX2_readSet_X2_refuse : GoodIn wsX2_readSet (wsV RX2 52 RX2 yX2_refuse wsX2_refuse) := goodIn_app (goodIn_of _ (by decide +kernel)) ggX2_readSet_X2_refuse
set_option maxRecDepth 20000 in
theorem ggX2_readSet_X2_expect : GoodIn wsX2_readSet wsX2_expect := goodIn_r _ [26, 1, 9, 10, 11, 6, 12, 13, 14, 18, 19, 20, 21, 22, 81, 82, 83, 84, 85, 86, 87, 88] (by decide +kernel) (by decide +kernel)
set_option maxRecDepth 20000 in
theorem gX2_readSet_X2_expect : GoodIn wsX2_readSet (wsV RX2 45 RX2 yX2_expect wsX2_expect) := goodIn_app (goodIn_of _ (by decide +kernel)) ggX2_readSet_X2_expect
set_option maxRecDepth 20000 in
theorem ggX2_readSet_X2_readSum : GoodIn wsX2_readSet wsX2_readSum := goodIn_r _ [30, 1, 2, 31, 32, 33, 6, 9, 10, 11, 12, 13, 14, 34, 35, 36, 37, 38, 39, 40, 41, 42, 43, 44, 45, 46, 47, 48, 49, 50, 51, 52, 53, 54, 55, 56, 57, 58, 59, 15, 16, 17, 60, 61, 62, 18, 19, 20, 21, 22, 63, 64, 65, 66, 67, 68, 69, 70, 27, 28, 29, 23, 24, 25, 26, 71, 72, 73, 74, 75, 76, 77, 78, 79, 80, 81, 82, 83, 84, 85, 86, 87, 88, 89, 90, 91, 92, 93, 94] (by decide +kernel) (by decide +kernel)
set_option maxRecDepth 20000 in
theorem gX2_readSet_X2_readSum : GoodIn wsX2_readSet (wsV RX2 77 RX2 yX2_readSum wsX2_readSum) := goodIn_app (goodIn_of _ (by decide +kernel)) ggX2_readSet_X2_readSum
set_option maxRecDepth 20000 in
theorem ggX2_readSet_X0_add : GoodIn wsX2_readSet wsX0_add := goodIn_r _ [55, 41, 48, 42, 56, 89, 90, 91, 92, 93, 94] (by decide +kernel) (by decide +kernel)
set_option maxRecDepth 20000 in
theorem gX2_readSet_X0_add_n80 : GoodIn wsX2_readSet (wsX0_add) := ggX2_readSet_X0_add
theorem dX2_readSet_0 : decode cX2_readSet 0 = .ok (.aload_n 0, 1) := by decide +kernel
theorem dX2_readSet_1 : decode cX2_readSet 1 = .ok (.invokevirtual 74, 3) := by decide +kernel
theorem dX2_readSet_4 : decode cX2_readSet 4 = .ok (.istore_n 1, 1) := by decide +kernel
theorem dX2_readSet_5 : decode cX2_readSet 5 = .ok (.iload_n 1, 1) := by decide +kernel
theorem dX2_readSet_6 : decode cX2_readSet 6 = .ok (.ifCond .ge 12, 3) := by decide +kernel
theorem dX2_readSet_9 : decode cX2_readSet 9 = .ok (.aload_n 0, 1) := by decide +kernel
theorem dX2_readSet_10 : decode cX2_readSet 10 = .ok (.aload_n 0, 1) := by decide +kernel
theorem dX2_readSet_11 : decode cX2_readSet 11 = .ok (.getfield 29, 3) := by decide +kernel
theorem dX2_readSet_14 : decode cX2_readSet 14 = .ok (.invokevirtual 52, 3) := by decide +kernel
theorem dX2_readSet_17 : decode cX2_readSet 17 = .ok (.ireturn, 1) := by decide +kernel
theorem dX2_readSet_18 : decode cX2_readSet 18 = .ok (.aload_n 0, 1) := by decide +kernel
theorem dX2_readSet_19 : decode cX2_readSet 19 = .ok (.dup, 1) := by decide +kernel
theorem dX2_readSet_20 : decode cX2_readSet 20 = .ok (.getfield 29, 3) := by decide +kernel
theorem dX2_readSet_23 : decode cX2_readSet 23 = .ok (.iconst 1, 1) := by decide +kernel
theorem dX2_readSet_24 : decode cX2_readSet 24 = .ok (.iadd, 1) := by decide +kernel
theorem dX2_readSet_25 : decode cX2_readSet 25 = .ok (.putfield 29, 3) := by decide +kernel
theorem dX2_readSet_28 : decode cX2_readSet 28 = .ok (.aload_n 0, 1) := by decide +kernel
theorem dX2_readSet_29 : decode cX2_readSet 29 = .ok (.bipush 61, 2) := by decide +kernel
theorem dX2_readSet_31 : decode cX2_readSet 31 = .ok (.invokevirtual 45, 3) := by decide +kernel
theorem dX2_readSet_34 : decode cX2_readSet 34 = .ok (.ifCond .eq 20, 3) := by decide +kernel
theorem dX2_readSet_37 : decode cX2_readSet 37 = .ok (.aload_n 0, 1) := by decide +kernel
theorem dX2_readSet_38 : decode cX2_readSet 38 = .ok (.iconst 0, 1) := by decide +kernel
theorem dX2_readSet_39 : decode cX2_readSet 39 = .ok (.invokevirtual 77, 3) := by decide +kernel
theorem dX2_readSet_42 : decode cX2_readSet 42 = .ok (.ifCond .eq 12, 3) := by decide +kernel
theorem dX2_readSet_45 : decode cX2_readSet 45 = .ok (.aload_n 0, 1) := by decide +kernel
theorem dX2_readSet_46 : decode cX2_readSet 46 = .ok (.bipush 59, 2) := by decide +kernel
theorem dX2_readSet_48 : decode cX2_readSet 48 = .ok (.invokevirtual 45, 3) := by decide +kernel
theorem dX2_readSet_51 : decode cX2_readSet 51 = .ok (.ifCond .ne 5, 3) := by decide +kernel
theorem dX2_readSet_54 : decode cX2_readSet 54 = .ok (.iconst 0, 1) := by decide +kernel
theorem dX2_readSet_55 : decode cX2_readSet 55 = .ok (.ireturn, 1) := by decide +kernel
theorem dX2_readSet_56 : decode cX2_readSet 56 = .ok (.aload_n 0, 1) := by decide +kernel
theorem dX2_readSet_57 : decode cX2_readSet 57 = .ok (.getfield 18, 3) := by decide +kernel
theorem dX2_readSet_60 : decode cX2_readSet 60 = .ok (.iconst 4, 1) := by decide +kernel
theorem dX2_readSet_61 : decode cX2_readSet 61 = .ok (.iload_n 1, 1) := by decide +kernel
theorem dX2_readSet_62 : decode cX2_readSet 62 = .ok (.iconst 0, 1) := by decide +kernel
theorem dX2_readSet_63 : decode cX2_readSet 63 = .ok (.invokevirtual 80, 3) := by decide +kernel
theorem dX2_readSet_66 : decode cX2_readSet 66 = .ok (.iconst 1, 1) := by decide +kernel
theorem dX2_readSet_67 : decode cX2_readSet 67 = .ok (.ireturn, 1) := by decide +kernel
set_option maxRecDepth 20000 in
theorem ggX2_readStore_X2_expect : GoodIn wsX2_readStore wsX2_expect := goodIn_r _ [7, 1, 8, 9, 10, 6, 11, 12, 13, 14, 15, 16, 17, 18, 76, 77, 78, 79, 80, 81, 82, 83] (by decide +kernel) (by decide +kernel)
set_option maxRecDepth 20000 in
theorem gX2_readStore_X2_expect : GoodIn wsX2_readStore (wsV RX2 45 RX2 yX2_expect wsX2_expect) := goodIn_app (goodIn_of _ (by decide +kernel)) ggX2_readStore_X2_expect
set_option maxRecDepth 20000 in
theorem ggX2_readStore_X2_readSum : GoodIn wsX2_readStore wsX2_readSum := goodIn_r _ [22, 1, 2, 23, 24, 25, 6, 8, 9, 10, 11, 12, 13, 26, 27, 28, 29, 30, 31, 32, 33, 34, 35, 36, 37, 38, 39, 40, 41, 42, 43, 44, 45, 46, 47, 48, 49, 50, 51, 52, 53, 54, 55, 56, 57, 14, 15, 16, 17, 18, 58, 59, 60, 61, 62, 63, 64, 65, 19, 20, 21, 3, 4, 5, 7, 66, 67, 68, 69, 70, 71, 72, 73, 74, 75, 76, 77, 78, 79, 80, 81, 82, 83, 84, 85, 86, 87, 88, 89] (by decide +kernel) (by decide +kernel)
set_option maxRecDepth 20000 in
theorem gX2_readStore_X2_readSum : GoodIn wsX2_readStore (wsV RX2 77 RX2 yX2_readSum wsX2_readSum) := goodIn_app (goodIn_of _ (by decide +kernel)) ggX2_readStore_X2_readSum
set_option maxRecDepth 20000 in
theorem ggX2_readStore_X0_add : GoodIn wsX2_readStore wsX0_add := goodIn_r _ [47, 33, 40, 34, 48, 84, 85, 86, 87, 88, 89] (by decide +kernel) (by decide +kernel)
set_option maxRecDepth 20000 in
theorem gX2_readStore_X0_add_n80 : GoodIn wsX2_readStore (wsX0_add) := ggX2_readStore_X0_add
theorem dX2_readStore_0 : decode cX2_readStore 0 = .ok (.aload_n 0, 1) := by decide +kernel
theorem dX2_readStore_1 : decode cX2_readStore 1 = .ok (.dup, 1) := by decide +kernel
theorem dX2_readStore_2 : decode cX2_readStore 2 = .ok (.getfield 29, 3) := by decide +kernel
theorem dX2_readStore_5 : decode cX2_readStore 5 = .ok (.iconst 1, 1) := by decide +kernel
theorem dX2_readStore_6 : decode cX2_readStore 6 = .ok (.iadd, 1) := by decide +kernel
theorem dX2_readStore_7 : decode cX2_readStore 7 = .ok (.putfield 29, 3) := by decide +kernel
theorem dX2_readStore_10 : decode cX2_readStore 10 = .ok (.aload_n 0, 1) := by decide +kernel
theorem dX2_readStore_11 : decode cX2_readStore 11 = .ok (.bipush 91, 2) := by decide +kernel
theorem dX2_readStore_13 : decode cX2_readStore 13 = .ok (.invokevirtual 45, 3) := by decide +kernel
theorem dX2_readStore_16 : decode cX2_readStore 16 = .ok (.ifCond .eq 20, 3) := by decide +kernel
theorem dX2_readStore_19 : decode cX2_readStore 19 = .ok (.aload_n 0, 1) := by decide +kernel
theorem dX2_readStore_20 : decode cX2_readStore 20 = .ok (.iconst 0, 1) := by decide +kernel
theorem dX2_readStore_21 : decode cX2_readStore 21 = .ok (.invokevirtual 77, 3) := by decide +kernel
theorem dX2_readStore_24 : decode cX2_readStore 24 = .ok (.ifCond .eq 12, 3) := by decide +kernel
theorem dX2_readStore_27 : decode cX2_readStore 27 = .ok (.aload_n 0, 1) := by decide +kernel
theorem dX2_readStore_28 : decode cX2_readStore 28 = .ok (.bipush 93, 2) := by decide +kernel
theorem dX2_readStore_30 : decode cX2_readStore 30 = .ok (.invokevirtual 45, 3) := by decide +kernel
theorem dX2_readStore_33 : decode cX2_readStore 33 = .ok (.ifCond .ne 5, 3) := by decide +kernel
theorem dX2_readStore_36 : decode cX2_readStore 36 = .ok (.iconst 0, 1) := by decide +kernel
theorem dX2_readStore_37 : decode cX2_readStore 37 = .ok (.ireturn, 1) := by decide +kernel
theorem dX2_readStore_38 : decode cX2_readStore 38 = .ok (.aload_n 0, 1) := by decide +kernel
theorem dX2_readStore_39 : decode cX2_readStore 39 = .ok (.bipush 61, 2) := by decide +kernel
theorem dX2_readStore_41 : decode cX2_readStore 41 = .ok (.invokevirtual 45, 3) := by decide +kernel
theorem dX2_readStore_44 : decode cX2_readStore 44 = .ok (.ifCond .eq 20, 3) := by decide +kernel
theorem dX2_readStore_47 : decode cX2_readStore 47 = .ok (.aload_n 0, 1) := by decide +kernel
theorem dX2_readStore_48 : decode cX2_readStore 48 = .ok (.iconst 0, 1) := by decide +kernel
theorem dX2_readStore_49 : decode cX2_readStore 49 = .ok (.invokevirtual 77, 3) := by decide +kernel
theorem dX2_readStore_52 : decode cX2_readStore 52 = .ok (.ifCond .eq 12, 3) := by decide +kernel
theorem dX2_readStore_55 : decode cX2_readStore 55 = .ok (.aload_n 0, 1) := by decide +kernel
theorem dX2_readStore_56 : decode cX2_readStore 56 = .ok (.bipush 59, 2) := by decide +kernel
theorem dX2_readStore_58 : decode cX2_readStore 58 = .ok (.invokevirtual 45, 3) := by decide +kernel
theorem dX2_readStore_61 : decode cX2_readStore 61 = .ok (.ifCond .ne 5, 3) := by decide +kernel
theorem dX2_readStore_64 : decode cX2_readStore 64 = .ok (.iconst 0, 1) := by decide +kernel
theorem dX2_readStore_65 : decode cX2_readStore 65 = .ok (.ireturn, 1) := by decide +kernel
theorem dX2_readStore_66 : decode cX2_readStore 66 = .ok (.aload_n 0, 1) := by decide +kernel
theorem dX2_readStore_67 : decode cX2_readStore 67 = .ok (.getfield 18, 3) := by decide +kernel
theorem dX2_readStore_70 : decode cX2_readStore 70 = .ok (.iconst 5, 1) := by decide +kernel
theorem dX2_readStore_71 : decode cX2_readStore 71 = .ok (.iconst 0, 1) := by decide +kernel
theorem dX2_readStore_72 : decode cX2_readStore 72 = .ok (.iconst 0, 1) := by decide +kernel
theorem dX2_readStore_73 : decode cX2_readStore 73 = .ok (.invokevirtual 80, 3) := by decide +kernel
theorem dX2_readStore_76 : decode cX2_readStore 76 = .ok (.iconst 1, 1) := by decide +kernel
theorem dX2_readStore_77 : decode cX2_readStore 77 = .ok (.ireturn, 1) := by decide +kernel
set_option maxRecDepth 20000 in
theorem ggX2_readLoop_X2_freeName : GoodIn wsX2_readLoop wsX2_freeName := goodIn_r _ [11, 6, 12, 13, 14, 10, 15, 1, 16, 17, 18, 19, 20, 113, 114, 115, 116, 117, 118, 119, 120] (by decide +kernel) (by decide +kernel)
set_option maxRecDepth 20000 in
theorem gX2_readLoop_X2_freeName : GoodIn wsX2_readLoop (wsV RX2 74 RX2 yX2_freeName wsX2_freeName) := goodIn_app (goodIn_of _ (by decide +kernel)) ggX2_readLoop_X2_freeName
set_option maxRecDepth 20000 in
theorem ggX2_readLoop_X2_refuse : GoodIn wsX2_readLoop wsX2_refuse := goodIn_r _ [24, 25, 113, 114, 115, 116, 117, 118, 119, 120] (by decide +kernel) (by decide +kernel)
set_option maxRecDepth 20000 in
theorem gX2_readLoop_X2_refuse : GoodIn wsX2_readLoop (wsV RX2 52 RX2 yX2_refuse wsX2_refuse) := goodIn_app (goodIn_of _ (by decide +kernel)) ggX2_readLoop_X2_refuse
set_option maxRecDepth 20000 in
theorem ggX2_readLoop_X2_readNumber : GoodIn wsX2_readLoop wsX2_readNumber := goodIn_r _ [29, 1, 3, 12, 13, 14, 10, 15, 16, 17, 30, 31, 32, 21, 22, 23, 24, 25, 113, 114, 115, 116, 117, 118, 119, 120] (by decide +kernel) (by decide +kernel)
set_option maxRecDepth 20000 in
theorem gX2_readLoop_X2_readNumber : GoodIn wsX2_readLoop (wsV RX2 86 RX2 yX2_readNumber wsX2_readNumber) := goodIn_app (goodIn_of _ (by decide +kernel)) ggX2_readLoop_X2_readNumber
set_option maxRecDepth 20000 in
theorem ggX2_readLoop_X0_add : GoodIn wsX2_readLoop wsX0_add := goodIn_r _ [36, 37, 38, 39, 40, 121, 122, 123, 124, 125, 126] (by decide +kernel) (by decide +kernel)
set_option maxRecDepth 20000 in
theorem gX2_readLoop_X0_add_n80 : GoodIn wsX2_readLoop (wsX0_add) := ggX2_readLoop_X0_add
set_option maxRecDepth 20000 in
theorem ggX2_readLoop_X2_readBlock : GoodIn wsX2_readLoop wsX2_readBlock := goodIn_r _ [44, 45, 46, 47, 10, 48, 1, 12, 13, 14, 15, 16, 17, 21, 22, 23, 24, 25, 49, 50, 51, 52, 5, 53, 54, 55, 56, 57, 58, 59, 60, 61, 62, 63, 34, 64, 65, 37, 39, 66, 67, 68, 69, 70, 38, 71, 72, 73, 74, 33, 35, 36, 40, 75, 76, 3, 18, 19, 20, 77, 78, 79, 26, 27, 28, 29, 30, 31, 32, 80, 81, 82, 83, 84, 85, 86, 87, 88, 89, 90, 41, 42, 43, 91, 92, 93, 0, 2, 4, 6, 7, 8, 9, 11, 94, 95, 96, 97, 98, 99, 100, 101, 102, 103, 104, 105, 106, 107, 108, 109, 110, 111, 112, 113, 114, 115, 116, 117, 118, 119, 120, 121, 122, 123, 124, 125, 126] (by decide +kernel) (by decide +kernel)
set_option maxRecDepth 20000 in
theorem gX2_readLoop_X2_readBlock : GoodIn wsX2_readLoop (wsV RX2 97 RX2 yX2_readBlock wsX2_readBlock) := goodIn_app (goodIn_of _ (by decide +kernel)) ggX2_readLoop_X2_readBlock
theorem dX2_readLoop_0 : decode cX2_readLoop 0 = .ok (.aload_n 0, 1) := by decide +kernel
theorem dX2_readLoop_1 : decode cX2_readLoop 1 = .ok (.dup, 1) := by decide +kernel
theorem dX2_readLoop_2 : decode cX2_readLoop 2 = .ok (.getfield 29, 3) := by decide +kernel
theorem dX2_readLoop_5 : decode cX2_readLoop 5 = .ok (.iconst 1, 1) := by decide +kernel
theorem dX2_readLoop_6 : decode cX2_readLoop 6 = .ok (.iadd, 1) := by decide +kernel
theorem dX2_readLoop_7 : decode cX2_readLoop 7 = .ok (.putfield 29, 3) := by decide +kernel
theorem dX2_readLoop_10 : decode cX2_readLoop 10 = .ok (.aload_n 0, 1) := by decide +kernel
theorem dX2_readLoop_11 : decode cX2_readLoop 11 = .ok (.invokevirtual 74, 3) := by decide +kernel
theorem dX2_readLoop_14 : decode cX2_readLoop 14 = .ok (.istore_n 2, 1) := by decide +kernel
theorem dX2_readLoop_15 : decode cX2_readLoop 15 = .ok (.iload_n 2, 1) := by decide +kernel
theorem dX2_readLoop_16 : decode cX2_readLoop 16 = .ok (.ifCond .ge 12, 3) := by decide +kernel
theorem dX2_readLoop_19 : decode cX2_readLoop 19 = .ok (.aload_n 0, 1) := by decide +kernel
theorem dX2_readLoop_20 : decode cX2_readLoop 20 = .ok (.aload_n 0, 1) := by decide +kernel
theorem dX2_readLoop_21 : decode cX2_readLoop 21 = .ok (.getfield 29, 3) := by decide +kernel
theorem dX2_readLoop_24 : decode cX2_readLoop 24 = .ok (.invokevirtual 52, 3) := by decide +kernel
theorem dX2_readLoop_27 : decode cX2_readLoop 27 = .ok (.ireturn, 1) := by decide +kernel
theorem dX2_readLoop_28 : decode cX2_readLoop 28 = .ok (.aload_n 0, 1) := by decide +kernel
theorem dX2_readLoop_29 : decode cX2_readLoop 29 = .ok (.dup, 1) := by decide +kernel
theorem dX2_readLoop_30 : decode cX2_readLoop 30 = .ok (.getfield 29, 3) := by decide +kernel
theorem dX2_readLoop_33 : decode cX2_readLoop 33 = .ok (.iconst 1, 1) := by decide +kernel
theorem dX2_readLoop_34 : decode cX2_readLoop 34 = .ok (.iadd, 1) := by decide +kernel
theorem dX2_readLoop_35 : decode cX2_readLoop 35 = .ok (.putfield 29, 3) := by decide +kernel
theorem dX2_readLoop_38 : decode cX2_readLoop 38 = .ok (.aload_n 0, 1) := by decide +kernel
theorem dX2_readLoop_39 : decode cX2_readLoop 39 = .ok (.getfield 29, 3) := by decide +kernel
theorem dX2_readLoop_42 : decode cX2_readLoop 42 = .ok (.istore_n 3, 1) := by decide +kernel
theorem dX2_readLoop_43 : decode cX2_readLoop 43 = .ok (.aload_n 0, 1) := by decide +kernel
theorem dX2_readLoop_44 : decode cX2_readLoop 44 = .ok (.lconst 1, 1) := by decide +kernel
theorem dX2_readLoop_45 : decode cX2_readLoop 45 = .ok (.ldc2_w 84, 3) := by decide +kernel
theorem dX2_readLoop_48 : decode cX2_readLoop 48 = .ok (.invokevirtual 86, 3) := by decide +kernel
theorem dX2_readLoop_51 : decode cX2_readLoop 51 = .ok (.ifCond .ne 5, 3) := by decide +kernel
theorem dX2_readLoop_54 : decode cX2_readLoop 54 = .ok (.iconst 0, 1) := by decide +kernel
theorem dX2_readLoop_55 : decode cX2_readLoop 55 = .ok (.ireturn, 1) := by decide +kernel
theorem dX2_readLoop_56 : decode cX2_readLoop 56 = .ok (.aload_n 0, 1) := by decide +kernel
theorem dX2_readLoop_57 : decode cX2_readLoop 57 = .ok (.getfield 90, 3) := by decide +kernel
theorem dX2_readLoop_60 : decode cX2_readLoop 60 = .ok (.l2i, 1) := by decide +kernel
theorem dX2_readLoop_61 : decode cX2_readLoop 61 = .ok (.istore 4, 2) := by decide +kernel
theorem dX2_readLoop_63 : decode cX2_readLoop 63 = .ok (.aload_n 0, 1) := by decide +kernel
theorem dX2_readLoop_64 : decode cX2_readLoop 64 = .ok (.getfield 38, 3) := by decide +kernel
theorem dX2_readLoop_67 : decode cX2_readLoop 67 = .ok (.iload 4, 2) := by decide +kernel
theorem dX2_readLoop_69 : decode cX2_readLoop 69 = .ok (.imul, 1) := by decide +kernel
theorem dX2_readLoop_70 : decode cX2_readLoop 70 = .ok (.sipush 640, 3) := by decide +kernel
theorem dX2_readLoop_73 : decode cX2_readLoop 73 = .ok (.if_icmp .le 9, 3) := by decide +kernel
theorem dX2_readLoop_76 : decode cX2_readLoop 76 = .ok (.aload_n 0, 1) := by decide +kernel
theorem dX2_readLoop_77 : decode cX2_readLoop 77 = .ok (.iload_n 3, 1) := by decide +kernel
theorem dX2_readLoop_78 : decode cX2_readLoop 78 = .ok (.invokevirtual 52, 3) := by decide +kernel
theorem dX2_readLoop_81 : decode cX2_readLoop 81 = .ok (.ireturn, 1) := by decide +kernel
theorem dX2_readLoop_82 : decode cX2_readLoop 82 = .ok (.aload_n 0, 1) := by decide +kernel
theorem dX2_readLoop_83 : decode cX2_readLoop 83 = .ok (.getfield 18, 3) := by decide +kernel
theorem dX2_readLoop_86 : decode cX2_readLoop 86 = .ok (.getfield 94, 3) := by decide +kernel
theorem dX2_readLoop_89 : decode cX2_readLoop 89 = .ok (.istore 5, 2) := by decide +kernel
theorem dX2_readLoop_91 : decode cX2_readLoop 91 = .ok (.aload_n 0, 1) := by decide +kernel
theorem dX2_readLoop_92 : decode cX2_readLoop 92 = .ok (.getfield 18, 3) := by decide +kernel
theorem dX2_readLoop_95 : decode cX2_readLoop 95 = .ok (.bipush 6, 2) := by decide +kernel
theorem dX2_readLoop_97 : decode cX2_readLoop 97 = .ok (.iload_n 2, 1) := by decide +kernel
theorem dX2_readLoop_98 : decode cX2_readLoop 98 = .ok (.iload 4, 2) := by decide +kernel
theorem dX2_readLoop_100 : decode cX2_readLoop 100 = .ok (.invokevirtual 80, 3) := by decide +kernel
theorem dX2_readLoop_103 : decode cX2_readLoop 103 = .ok (.aload_n 0, 1) := by decide +kernel
theorem dX2_readLoop_104 : decode cX2_readLoop 104 = .ok (.getfield 38, 3) := by decide +kernel
theorem dX2_readLoop_107 : decode cX2_readLoop 107 = .ok (.istore 6, 2) := by decide +kernel
theorem dX2_readLoop_109 : decode cX2_readLoop 109 = .ok (.aload_n 0, 1) := by decide +kernel
theorem dX2_readLoop_110 : decode cX2_readLoop 110 = .ok (.dup, 1) := by decide +kernel
theorem dX2_readLoop_111 : decode cX2_readLoop 111 = .ok (.getfield 38, 3) := by decide +kernel
theorem dX2_readLoop_114 : decode cX2_readLoop 114 = .ok (.iload 4, 2) := by decide +kernel
theorem dX2_readLoop_116 : decode cX2_readLoop 116 = .ok (.imul, 1) := by decide +kernel
theorem dX2_readLoop_117 : decode cX2_readLoop 117 = .ok (.putfield 38, 3) := by decide +kernel
theorem dX2_readLoop_120 : decode cX2_readLoop 120 = .ok (.aload_n 0, 1) := by decide +kernel
theorem dX2_readLoop_121 : decode cX2_readLoop 121 = .ok (.dup, 1) := by decide +kernel
theorem dX2_readLoop_122 : decode cX2_readLoop 122 = .ok (.getfield 35, 3) := by decide +kernel
theorem dX2_readLoop_125 : decode cX2_readLoop 125 = .ok (.iconst 1, 1) := by decide +kernel
theorem dX2_readLoop_126 : decode cX2_readLoop 126 = .ok (.iload_n 2, 1) := by decide +kernel
theorem dX2_readLoop_127 : decode cX2_readLoop 127 = .ok (.ishl, 1) := by decide +kernel
theorem dX2_readLoop_128 : decode cX2_readLoop 128 = .ok (.ior, 1) := by decide +kernel
theorem dX2_readLoop_129 : decode cX2_readLoop 129 = .ok (.putfield 35, 3) := by decide +kernel
theorem dX2_readLoop_132 : decode cX2_readLoop 132 = .ok (.aload_n 0, 1) := by decide +kernel
theorem dX2_readLoop_133 : decode cX2_readLoop 133 = .ok (.iload_n 1, 1) := by decide +kernel
theorem dX2_readLoop_134 : decode cX2_readLoop 134 = .ok (.invokevirtual 97, 3) := by decide +kernel
theorem dX2_readLoop_137 : decode cX2_readLoop 137 = .ok (.ifCond .ne 5, 3) := by decide +kernel
theorem dX2_readLoop_140 : decode cX2_readLoop 140 = .ok (.iconst 0, 1) := by decide +kernel
theorem dX2_readLoop_141 : decode cX2_readLoop 141 = .ok (.ireturn, 1) := by decide +kernel
theorem dX2_readLoop_142 : decode cX2_readLoop 142 = .ok (.aload_n 0, 1) := by decide +kernel
theorem dX2_readLoop_143 : decode cX2_readLoop 143 = .ok (.dup, 1) := by decide +kernel
theorem dX2_readLoop_144 : decode cX2_readLoop 144 = .ok (.getfield 35, 3) := by decide +kernel
theorem dX2_readLoop_147 : decode cX2_readLoop 147 = .ok (.iconst 1, 1) := by decide +kernel
theorem dX2_readLoop_148 : decode cX2_readLoop 148 = .ok (.iload_n 2, 1) := by decide +kernel
theorem dX2_readLoop_149 : decode cX2_readLoop 149 = .ok (.ishl, 1) := by decide +kernel
theorem dX2_readLoop_150 : decode cX2_readLoop 150 = .ok (.iconst (-1), 1) := by decide +kernel
theorem dX2_readLoop_151 : decode cX2_readLoop 151 = .ok (.ixor, 1) := by decide +kernel
theorem dX2_readLoop_152 : decode cX2_readLoop 152 = .ok (.iand, 1) := by decide +kernel
theorem dX2_readLoop_153 : decode cX2_readLoop 153 = .ok (.putfield 35, 3) := by decide +kernel
theorem dX2_readLoop_156 : decode cX2_readLoop 156 = .ok (.aload_n 0, 1) := by decide +kernel
theorem dX2_readLoop_157 : decode cX2_readLoop 157 = .ok (.iload 6, 2) := by decide +kernel
theorem dX2_readLoop_159 : decode cX2_readLoop 159 = .ok (.putfield 38, 3) := by decide +kernel
theorem dX2_readLoop_162 : decode cX2_readLoop 162 = .ok (.aload_n 0, 1) := by decide +kernel
theorem dX2_readLoop_163 : decode cX2_readLoop 163 = .ok (.getfield 18, 3) := by decide +kernel
theorem dX2_readLoop_166 : decode cX2_readLoop 166 = .ok (.bipush 7, 2) := by decide +kernel
theorem dX2_readLoop_168 : decode cX2_readLoop 168 = .ok (.iload 5, 2) := by decide +kernel
theorem dX2_readLoop_170 : decode cX2_readLoop 170 = .ok (.iconst 0, 1) := by decide +kernel
theorem dX2_readLoop_171 : decode cX2_readLoop 171 = .ok (.invokevirtual 80, 3) := by decide +kernel
theorem dX2_readLoop_174 : decode cX2_readLoop 174 = .ok (.iconst 1, 1) := by decide +kernel
theorem dX2_readLoop_175 : decode cX2_readLoop 175 = .ok (.ireturn, 1) := by decide +kernel
set_option maxRecDepth 20000 in
theorem ggX2_readBranch_X2_readSum : GoodIn wsX2_readBranch wsX2_readSum := goodIn_r _ [7, 1, 2, 8, 9, 10, 6, 11, 12, 13, 14, 15, 16, 17, 18, 19, 20, 21, 22, 23, 24, 25, 26, 27, 28, 29, 30, 31, 32, 33, 34, 35, 36, 37, 38, 39, 40, 41, 42, 43, 44, 45, 46, 47, 48, 49, 50, 51, 52, 53, 54, 55, 56, 57, 58, 59, 60, 61, 3, 4, 5, 62, 63, 64, 65, 66, 67, 68, 69, 70, 71, 72, 73, 74, 75, 113, 114, 115, 116, 117, 118, 119, 120, 121, 122, 123, 124, 125, 126] (by decide +kernel) (by decide +kernel)
set_option maxRecDepth 20000 in
theorem gX2_readBranch_X2_readSum : GoodIn wsX2_readBranch (wsV RX2 77 RX2 yX2_readSum wsX2_readSum) := goodIn_app (goodIn_of _ (by decide +kernel)) ggX2_readBranch_X2_readSum
set_option maxRecDepth 20000 in
theorem ggX2_readBranch_X0_add : GoodIn wsX2_readBranch wsX0_add := goodIn_r _ [38, 24, 31, 25, 39, 121, 122, 123, 124, 125, 126] (by decide +kernel) (by decide +kernel)
set_option maxRecDepth 20000 in
theorem gX2_readBranch_X0_add_n80 : GoodIn wsX2_readBranch (wsX0_add) := ggX2_readBranch_X0_add
set_option maxRecDepth 20000 in
theorem ggX2_readBranch_X2_readBlock : GoodIn wsX2_readBranch wsX2_readBlock := goodIn_r _ [82, 62, 63, 64, 6, 65, 1, 11, 12, 13, 14, 15, 16, 49, 50, 51, 52, 53, 83, 84, 85, 0, 2, 3, 4, 5, 7, 8, 9, 10, 17, 18, 19, 20, 21, 22, 23, 24, 25, 26, 27, 28, 29, 30, 31, 32, 33, 34, 35, 36, 37, 38, 39, 40, 41, 42, 43, 44, 45, 46, 47, 48, 54, 55, 56, 57, 58, 59, 60, 61, 66, 67, 68, 69, 70, 71, 72, 73, 74, 75, 76, 77, 78, 79, 80, 81, 86, 87, 88, 89, 90, 91, 92, 93, 94, 95, 96, 97, 98, 99, 100, 101, 102, 103, 104, 105, 106, 107, 108, 109, 110, 111, 112, 113, 114, 115, 116, 117, 118, 119, 120, 121, 122, 123, 124, 125, 126] (by decide +kernel) (by decide +kernel)
set_option maxRecDepth 20000 in
theorem gX2_readBranch_X2_readBlock : GoodIn wsX2_readBranch (wsV RX2 97 RX2 yX2_readBlock wsX2_readBlock) := goodIn_app (goodIn_of _ (by decide +kernel)) ggX2_readBranch_X2_readBlock
set_option maxRecDepth 20000 in
theorem ggX2_readBranch_X0_setFirst : GoodIn wsX2_readBranch wsX0_setFirst := goodIn_r _ [81, 24, 25, 121, 122, 123, 124, 125, 126] (by decide +kernel) (by decide +kernel)
set_option maxRecDepth 20000 in
theorem gX2_readBranch_X0_setFirst_n100 : GoodIn wsX2_readBranch (wsX0_setFirst) := ggX2_readBranch_X0_setFirst
theorem dX2_readBranch_0 : decode cX2_readBranch 0 = .ok (.aload_n 0, 1) := by decide +kernel
theorem dX2_readBranch_1 : decode cX2_readBranch 1 = .ok (.dup, 1) := by decide +kernel
theorem dX2_readBranch_2 : decode cX2_readBranch 2 = .ok (.getfield 29, 3) := by decide +kernel
theorem dX2_readBranch_5 : decode cX2_readBranch 5 = .ok (.iconst 1, 1) := by decide +kernel
theorem dX2_readBranch_6 : decode cX2_readBranch 6 = .ok (.iadd, 1) := by decide +kernel
theorem dX2_readBranch_7 : decode cX2_readBranch 7 = .ok (.putfield 29, 3) := by decide +kernel
theorem dX2_readBranch_10 : decode cX2_readBranch 10 = .ok (.aload_n 0, 1) := by decide +kernel
theorem dX2_readBranch_11 : decode cX2_readBranch 11 = .ok (.iconst 0, 1) := by decide +kernel
theorem dX2_readBranch_12 : decode cX2_readBranch 12 = .ok (.invokevirtual 77, 3) := by decide +kernel
theorem dX2_readBranch_15 : decode cX2_readBranch 15 = .ok (.ifCond .ne 5, 3) := by decide +kernel
theorem dX2_readBranch_18 : decode cX2_readBranch 18 = .ok (.iconst 0, 1) := by decide +kernel
theorem dX2_readBranch_19 : decode cX2_readBranch 19 = .ok (.ireturn, 1) := by decide +kernel
theorem dX2_readBranch_20 : decode cX2_readBranch 20 = .ok (.aload_n 0, 1) := by decide +kernel
theorem dX2_readBranch_21 : decode cX2_readBranch 21 = .ok (.getfield 18, 3) := by decide +kernel
theorem dX2_readBranch_24 : decode cX2_readBranch 24 = .ok (.getfield 94, 3) := by decide +kernel
theorem dX2_readBranch_27 : decode cX2_readBranch 27 = .ok (.istore_n 2, 1) := by decide +kernel
theorem dX2_readBranch_28 : decode cX2_readBranch 28 = .ok (.aload_n 0, 1) := by decide +kernel
theorem dX2_readBranch_29 : decode cX2_readBranch 29 = .ok (.getfield 18, 3) := by decide +kernel
theorem dX2_readBranch_32 : decode cX2_readBranch 32 = .ok (.bipush 8, 2) := by decide +kernel
theorem dX2_readBranch_34 : decode cX2_readBranch 34 = .ok (.iconst 0, 1) := by decide +kernel
theorem dX2_readBranch_35 : decode cX2_readBranch 35 = .ok (.iconst 0, 1) := by decide +kernel
theorem dX2_readBranch_36 : decode cX2_readBranch 36 = .ok (.invokevirtual 80, 3) := by decide +kernel
theorem dX2_readBranch_39 : decode cX2_readBranch 39 = .ok (.aload_n 0, 1) := by decide +kernel
theorem dX2_readBranch_40 : decode cX2_readBranch 40 = .ok (.iload_n 1, 1) := by decide +kernel
theorem dX2_readBranch_41 : decode cX2_readBranch 41 = .ok (.invokevirtual 97, 3) := by decide +kernel
theorem dX2_readBranch_44 : decode cX2_readBranch 44 = .ok (.ifCond .ne 5, 3) := by decide +kernel
theorem dX2_readBranch_47 : decode cX2_readBranch 47 = .ok (.iconst 0, 1) := by decide +kernel
theorem dX2_readBranch_48 : decode cX2_readBranch 48 = .ok (.ireturn, 1) := by decide +kernel
theorem dX2_readBranch_49 : decode cX2_readBranch 49 = .ok (.aload_n 0, 1) := by decide +kernel
theorem dX2_readBranch_50 : decode cX2_readBranch 50 = .ok (.getfield 18, 3) := by decide +kernel
theorem dX2_readBranch_53 : decode cX2_readBranch 53 = .ok (.iload_n 2, 1) := by decide +kernel
theorem dX2_readBranch_54 : decode cX2_readBranch 54 = .ok (.aload_n 0, 1) := by decide +kernel
theorem dX2_readBranch_55 : decode cX2_readBranch 55 = .ok (.getfield 18, 3) := by decide +kernel
theorem dX2_readBranch_58 : decode cX2_readBranch 58 = .ok (.getfield 94, 3) := by decide +kernel
theorem dX2_readBranch_61 : decode cX2_readBranch 61 = .ok (.invokevirtual 100, 3) := by decide +kernel
theorem dX2_readBranch_64 : decode cX2_readBranch 64 = .ok (.iconst 1, 1) := by decide +kernel
theorem dX2_readBranch_65 : decode cX2_readBranch 65 = .ok (.ireturn, 1) := by decide +kernel
set_option maxRecDepth 20000 in
theorem ggX2_readBlock_X2_expect : GoodIn wsX2_readBlock wsX2_expect := goodIn_r _ [5, 6, 7, 8, 9, 4, 10, 11, 12, 13, 14, 15, 16, 17, 113, 114, 115, 116, 117, 118, 119, 120] (by decide +kernel) (by decide +kernel)
set_option maxRecDepth 20000 in
theorem gX2_readBlock_X2_expect : GoodIn wsX2_readBlock (wsV RX2 45 RX2 yX2_expect wsX2_expect) := goodIn_app (goodIn_of _ (by decide +kernel)) ggX2_readBlock_X2_expect
set_option maxRecDepth 20000 in
theorem ggX2_readBlock_X2_readProgram : GoodIn wsX2_readBlock wsX2_readProgram := goodIn_r _ [94, 22, 7, 8, 9, 4, 10, 6, 11, 12, 95, 96, 97, 0, 1, 2, 3, 5, 13, 14, 15, 16, 17, 18, 19, 20, 21, 23, 24, 25, 26, 27, 28, 29, 30, 31, 32, 33, 34, 35, 36, 37, 38, 39, 40, 41, 42, 43, 44, 45, 46, 47, 48, 49, 50, 51, 52, 53, 54, 55, 56, 57, 58, 59, 60, 61, 62, 63, 64, 65, 66, 67, 68, 69, 70, 71, 72, 73, 74, 75, 76, 77, 78, 79, 80, 81, 82, 83, 84, 85, 86, 87, 88, 89, 90, 91, 92, 93, 98, 99, 100, 101, 102, 103, 104, 105, 106, 107, 108, 109, 110, 111, 112, 113, 114, 115, 116, 117, 118, 119, 120, 121, 122, 123, 124, 125, 126] (by decide +kernel) (by decide +kernel)
set_option maxRecDepth 20000 in
theorem gX2_readBlock_X2_readProgram : GoodIn wsX2_readBlock (wsV RX2 41 RX2 yX2_readProgram wsX2_readProgram) := goodIn_app (goodIn_of _ (by decide +kernel)) ggX2_readBlock_X2_readProgram
theorem dX2_readBlock_0 : decode cX2_readBlock 0 = .ok (.aload_n 0, 1) := by decide +kernel
theorem dX2_readBlock_1 : decode cX2_readBlock 1 = .ok (.bipush 123, 2) := by decide +kernel
theorem dX2_readBlock_3 : decode cX2_readBlock 3 = .ok (.invokevirtual 45, 3) := by decide +kernel
