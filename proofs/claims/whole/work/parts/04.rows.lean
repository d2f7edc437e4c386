theorem dX0_init_0 : decode cX0_init 0 = .ok (.aload_n 0, 1) := by decide +kernel
theorem dX0_init_1 : decode cX0_init 1 = .ok (.invokespecial 3, 3) := by decide +kernel
theorem dX0_init_4 : decode cX0_init 4 = .ok (.aload_n 0, 1) := by decide +kernel
theorem dX0_init_5 : decode cX0_init 5 = .ok (.sipush 480, 3) := by decide +kernel
theorem dX0_init_8 : decode cX0_init 8 = .ok (.newarray .int, 2) := by decide +kernel
theorem dX0_init_10 : decode cX0_init 10 = .ok (.putfield 9, 3) := by decide +kernel
theorem dX0_init_13 : decode cX0_init 13 = .ok (.aload_n 0, 1) := by decide +kernel
theorem dX0_init_14 : decode cX0_init 14 = .ok (.sipush 480, 3) := by decide +kernel
theorem dX0_init_17 : decode cX0_init 17 = .ok (.newarray .int, 2) := by decide +kernel
theorem dX0_init_19 : decode cX0_init 19 = .ok (.putfield 15, 3) := by decide +kernel
theorem dX0_init_22 : decode cX0_init 22 = .ok (.aload_n 0, 1) := by decide +kernel
theorem dX0_init_23 : decode cX0_init 23 = .ok (.sipush 480, 3) := by decide +kernel
theorem dX0_init_26 : decode cX0_init 26 = .ok (.newarray .int, 2) := by decide +kernel
theorem dX0_init_28 : decode cX0_init 28 = .ok (.putfield 18, 3) := by decide +kernel
theorem dX0_init_31 : decode cX0_init 31 = .ok (.return_, 1) := by decide +kernel
theorem dX0_empty_0 : decode cX0_empty 0 = .ok (.aload_n 0, 1) := by decide +kernel
theorem dX0_empty_1 : decode cX0_empty 1 = .ok (.iconst 0, 1) := by decide +kernel
theorem dX0_empty_2 : decode cX0_empty 2 = .ok (.putfield 21, 3) := by decide +kernel
theorem dX0_empty_5 : decode cX0_empty 5 = .ok (.aload_n 0, 1) := by decide +kernel
theorem dX0_empty_6 : decode cX0_empty 6 = .ok (.iconst 0, 1) := by decide +kernel
theorem dX0_empty_7 : decode cX0_empty 7 = .ok (.putfield 25, 3) := by decide +kernel
theorem dX0_empty_10 : decode cX0_empty 10 = .ok (.aload_n 0, 1) := by decide +kernel
theorem dX0_empty_11 : decode cX0_empty 11 = .ok (.iconst 0, 1) := by decide +kernel
theorem dX0_empty_12 : decode cX0_empty 12 = .ok (.putfield 28, 3) := by decide +kernel
theorem dX0_empty_15 : decode cX0_empty 15 = .ok (.return_, 1) := by decide +kernel
theorem dX0_add_0 : decode cX0_add 0 = .ok (.aload_n 0, 1) := by decide +kernel
theorem dX0_add_1 : decode cX0_add 1 = .ok (.getfield 21, 3) := by decide +kernel
theorem dX0_add_4 : decode cX0_add 4 = .ok (.aload_n 0, 1) := by decide +kernel
theorem dX0_add_5 : decode cX0_add 5 = .ok (.getfield 9, 3) := by decide +kernel
theorem dX0_add_8 : decode cX0_add 8 = .ok (.arraylength, 1) := by decide +kernel
theorem dX0_add_9 : decode cX0_add 9 = .ok (.if_icmp .ge 43, 3) := by decide +kernel
theorem dX0_add_12 : decode cX0_add 12 = .ok (.aload_n 0, 1) := by decide +kernel
theorem dX0_add_13 : decode cX0_add 13 = .ok (.getfield 9, 3) := by decide +kernel
theorem dX0_add_16 : decode cX0_add 16 = .ok (.aload_n 0, 1) := by decide +kernel
theorem dX0_add_17 : decode cX0_add 17 = .ok (.getfield 21, 3) := by decide +kernel
theorem dX0_add_20 : decode cX0_add 20 = .ok (.iload_n 1, 1) := by decide +kernel
theorem dX0_add_21 : decode cX0_add 21 = .ok (.iastore, 1) := by decide +kernel
theorem dX0_add_22 : decode cX0_add 22 = .ok (.aload_n 0, 1) := by decide +kernel
theorem dX0_add_23 : decode cX0_add 23 = .ok (.getfield 15, 3) := by decide +kernel
theorem dX0_add_26 : decode cX0_add 26 = .ok (.aload_n 0, 1) := by decide +kernel
theorem dX0_add_27 : decode cX0_add 27 = .ok (.getfield 21, 3) := by decide +kernel
theorem dX0_add_30 : decode cX0_add 30 = .ok (.iload_n 2, 1) := by decide +kernel
theorem dX0_add_31 : decode cX0_add 31 = .ok (.iastore, 1) := by decide +kernel
theorem dX0_add_32 : decode cX0_add 32 = .ok (.aload_n 0, 1) := by decide +kernel
theorem dX0_add_33 : decode cX0_add 33 = .ok (.getfield 18, 3) := by decide +kernel
theorem dX0_add_36 : decode cX0_add 36 = .ok (.aload_n 0, 1) := by decide +kernel
theorem dX0_add_37 : decode cX0_add 37 = .ok (.getfield 21, 3) := by decide +kernel
theorem dX0_add_40 : decode cX0_add 40 = .ok (.iload_n 3, 1) := by decide +kernel
theorem dX0_add_41 : decode cX0_add 41 = .ok (.iastore, 1) := by decide +kernel
theorem dX0_add_42 : decode cX0_add 42 = .ok (.aload_n 0, 1) := by decide +kernel
theorem dX0_add_43 : decode cX0_add 43 = .ok (.dup, 1) := by decide +kernel
theorem dX0_add_44 : decode cX0_add 44 = .ok (.getfield 21, 3) := by decide +kernel
theorem dX0_add_47 : decode cX0_add 47 = .ok (.iconst 1, 1) := by decide +kernel
theorem dX0_add_48 : decode cX0_add 48 = .ok (.iadd, 1) := by decide +kernel
theorem dX0_add_49 : decode cX0_add 49 = .ok (.putfield 21, 3) := by decide +kernel
theorem dX0_add_52 : decode cX0_add 52 = .ok (.return_, 1) := by decide +kernel
set_option maxRecDepth 20000 in
theorem ggX0_addOfOne_X0_endsInNumbers : GoodIn wsX0_addOfOne wsX0_endsInNumbers := goodIn_r _ [8, 2, 9, 18, 19, 20, 21, 22, 23] (by decide +kernel) (by decide +kernel)
set_option maxRecDepth 20000 in
theorem gX0_addOfOne_X0_endsInNumbers : GoodIn wsX0_addOfOne (wsV RX0 31 RX0 yX0_endsInNumbers wsX0_endsInNumbers) := goodIn_app (goodIn_of _ (by decide +kernel)) ggX0_addOfOne_X0_endsInNumbers
set_option maxRecDepth 20000 in
theorem ggX0_addOfOne_X3_ofOne : GoodIn wsX0_addOfOne wsX3_ofOne := goodIn_r _ [12] (by decide +kernel) (by decide +kernel)
set_option maxRecDepth 20000 in
theorem gX0_addOfOne_X3_ofOne_n35 : GoodIn wsX0_addOfOne (wsX3_ofOne) := ggX0_addOfOne_X3_ofOne
set_option maxRecDepth 20000 in
theorem ggX0_addOfOne_X0_add : GoodIn wsX0_addOfOne wsX0_add := goodIn_r _ [16, 2, 9, 1, 17, 18, 19, 20, 21, 22, 23] (by decide +kernel) (by decide +kernel)
set_option maxRecDepth 20000 in
theorem gX0_addOfOne_X0_add : GoodIn wsX0_addOfOne (wsV RX0 39 RX0 yX0_add wsX0_add) := goodIn_app (goodIn_of _ (by decide +kernel)) ggX0_addOfOne_X0_add
theorem dX0_addOfOne_0 : decode cX0_addOfOne 0 = .ok (.aload_n 0, 1) := by decide +kernel
theorem dX0_addOfOne_1 : decode cX0_addOfOne 1 = .ok (.iconst 1, 1) := by decide +kernel
theorem dX0_addOfOne_2 : decode cX0_addOfOne 2 = .ok (.invokevirtual 31, 3) := by decide +kernel
theorem dX0_addOfOne_5 : decode cX0_addOfOne 5 = .ok (.ifCond .eq 33, 3) := by decide +kernel
theorem dX0_addOfOne_8 : decode cX0_addOfOne 8 = .ok (.aload_n 0, 1) := by decide +kernel
theorem dX0_addOfOne_9 : decode cX0_addOfOne 9 = .ok (.getfield 15, 3) := by decide +kernel
theorem dX0_addOfOne_12 : decode cX0_addOfOne 12 = .ok (.aload_n 0, 1) := by decide +kernel
theorem dX0_addOfOne_13 : decode cX0_addOfOne 13 = .ok (.getfield 21, 3) := by decide +kernel
theorem dX0_addOfOne_16 : decode cX0_addOfOne 16 = .ok (.iconst 1, 1) := by decide +kernel
theorem dX0_addOfOne_17 : decode cX0_addOfOne 17 = .ok (.isub, 1) := by decide +kernel
theorem dX0_addOfOne_18 : decode cX0_addOfOne 18 = .ok (.iload_n 1, 1) := by decide +kernel
theorem dX0_addOfOne_19 : decode cX0_addOfOne 19 = .ok (.aload_n 0, 1) := by decide +kernel
theorem dX0_addOfOne_20 : decode cX0_addOfOne 20 = .ok (.getfield 15, 3) := by decide +kernel
theorem dX0_addOfOne_23 : decode cX0_addOfOne 23 = .ok (.aload_n 0, 1) := by decide +kernel
theorem dX0_addOfOne_24 : decode cX0_addOfOne 24 = .ok (.getfield 21, 3) := by decide +kernel
theorem dX0_addOfOne_27 : decode cX0_addOfOne 27 = .ok (.iconst 1, 1) := by decide +kernel
theorem dX0_addOfOne_28 : decode cX0_addOfOne 28 = .ok (.isub, 1) := by decide +kernel
theorem dX0_addOfOne_29 : decode cX0_addOfOne 29 = .ok (.iaload, 1) := by decide +kernel
theorem dX0_addOfOne_30 : decode cX0_addOfOne 30 = .ok (.iload_n 2, 1) := by decide +kernel
theorem dX0_addOfOne_31 : decode cX0_addOfOne 31 = .ok (.invokestatic 35, 3) := by decide +kernel
theorem dX0_addOfOne_34 : decode cX0_addOfOne 34 = .ok (.iastore, 1) := by decide +kernel
theorem dX0_addOfOne_35 : decode cX0_addOfOne 35 = .ok (.goto 20, 3) := by decide +kernel
theorem dX0_addOfOne_38 : decode cX0_addOfOne 38 = .ok (.aload_n 0, 1) := by decide +kernel
theorem dX0_addOfOne_39 : decode cX0_addOfOne 39 = .ok (.iload_n 1, 1) := by decide +kernel
theorem dX0_addOfOne_40 : decode cX0_addOfOne 40 = .ok (.iload_n 2, 1) := by decide +kernel
theorem dX0_addOfOne_41 : decode cX0_addOfOne 41 = .ok (.iconst 0, 1) := by decide +kernel
theorem dX0_addOfOne_42 : decode cX0_addOfOne 42 = .ok (.invokevirtual 39, 3) := by decide +kernel
theorem dX0_addOfOne_45 : decode cX0_addOfOne 45 = .ok (.aload_n 0, 1) := by decide +kernel
theorem dX0_addOfOne_46 : decode cX0_addOfOne 46 = .ok (.dup, 1) := by decide +kernel
theorem dX0_addOfOne_47 : decode cX0_addOfOne 47 = .ok (.getfield 28, 3) := by decide +kernel
theorem dX0_addOfOne_50 : decode cX0_addOfOne 50 = .ok (.iconst 1, 1) := by decide +kernel
theorem dX0_addOfOne_51 : decode cX0_addOfOne 51 = .ok (.iadd, 1) := by decide +kernel
theorem dX0_addOfOne_52 : decode cX0_addOfOne 52 = .ok (.putfield 28, 3) := by decide +kernel
theorem dX0_addOfOne_55 : decode cX0_addOfOne 55 = .ok (.return_, 1) := by decide +kernel
set_option maxRecDepth 20000 in
theorem ggX0_addOfTwo_X0_endsInNumbers : GoodIn wsX0_addOfTwo wsX0_endsInNumbers := goodIn_r _ [8, 1, 9, 18, 19, 20, 21, 22, 23] (by decide +kernel) (by decide +kernel)
set_option maxRecDepth 20000 in
theorem gX0_addOfTwo_X0_endsInNumbers : GoodIn wsX0_addOfTwo (wsV RX0 31 RX0 yX0_endsInNumbers wsX0_endsInNumbers) := goodIn_app (goodIn_of _ (by decide +kernel)) ggX0_addOfTwo_X0_endsInNumbers
set_option maxRecDepth 20000 in
theorem ggX0_addOfTwo_X3_ofTwo : GoodIn wsX0_addOfTwo wsX3_ofTwo := goodIn_r _ [12] (by decide +kernel) (by decide +kernel)
set_option maxRecDepth 20000 in
theorem gX0_addOfTwo_X3_ofTwo_n43 : GoodIn wsX0_addOfTwo (wsX3_ofTwo) := ggX0_addOfTwo_X3_ofTwo
set_option maxRecDepth 20000 in
theorem ggX0_addOfTwo_X0_add : GoodIn wsX0_addOfTwo wsX0_add := goodIn_r _ [16, 1, 9, 2, 17, 18, 19, 20, 21, 22, 23] (by decide +kernel) (by decide +kernel)
set_option maxRecDepth 20000 in
theorem gX0_addOfTwo_X0_add : GoodIn wsX0_addOfTwo (wsV RX0 39 RX0 yX0_add wsX0_add) := goodIn_app (goodIn_of _ (by decide +kernel)) ggX0_addOfTwo_X0_add
theorem dX0_addOfTwo_0 : decode cX0_addOfTwo 0 = .ok (.aload_n 0, 1) := by decide +kernel
theorem dX0_addOfTwo_1 : decode cX0_addOfTwo 1 = .ok (.iconst 2, 1) := by decide +kernel
theorem dX0_addOfTwo_2 : decode cX0_addOfTwo 2 = .ok (.invokevirtual 31, 3) := by decide +kernel
theorem dX0_addOfTwo_5 : decode cX0_addOfTwo 5 = .ok (.ifCond .eq 51, 3) := by decide +kernel
theorem dX0_addOfTwo_8 : decode cX0_addOfTwo 8 = .ok (.aload_n 0, 1) := by decide +kernel
theorem dX0_addOfTwo_9 : decode cX0_addOfTwo 9 = .ok (.dup, 1) := by decide +kernel
theorem dX0_addOfTwo_10 : decode cX0_addOfTwo 10 = .ok (.getfield 21, 3) := by decide +kernel
theorem dX0_addOfTwo_13 : decode cX0_addOfTwo 13 = .ok (.iconst 1, 1) := by decide +kernel
theorem dX0_addOfTwo_14 : decode cX0_addOfTwo 14 = .ok (.isub, 1) := by decide +kernel
theorem dX0_addOfTwo_15 : decode cX0_addOfTwo 15 = .ok (.putfield 21, 3) := by decide +kernel
theorem dX0_addOfTwo_18 : decode cX0_addOfTwo 18 = .ok (.aload_n 0, 1) := by decide +kernel
theorem dX0_addOfTwo_19 : decode cX0_addOfTwo 19 = .ok (.getfield 15, 3) := by decide +kernel
theorem dX0_addOfTwo_22 : decode cX0_addOfTwo 22 = .ok (.aload_n 0, 1) := by decide +kernel
theorem dX0_addOfTwo_23 : decode cX0_addOfTwo 23 = .ok (.getfield 21, 3) := by decide +kernel
theorem dX0_addOfTwo_26 : decode cX0_addOfTwo 26 = .ok (.iconst 1, 1) := by decide +kernel
theorem dX0_addOfTwo_27 : decode cX0_addOfTwo 27 = .ok (.isub, 1) := by decide +kernel
theorem dX0_addOfTwo_28 : decode cX0_addOfTwo 28 = .ok (.iload_n 1, 1) := by decide +kernel
theorem dX0_addOfTwo_29 : decode cX0_addOfTwo 29 = .ok (.aload_n 0, 1) := by decide +kernel
theorem dX0_addOfTwo_30 : decode cX0_addOfTwo 30 = .ok (.getfield 15, 3) := by decide +kernel
theorem dX0_addOfTwo_33 : decode cX0_addOfTwo 33 = .ok (.aload_n 0, 1) := by decide +kernel
theorem dX0_addOfTwo_34 : decode cX0_addOfTwo 34 = .ok (.getfield 21, 3) := by decide +kernel
theorem dX0_addOfTwo_37 : decode cX0_addOfTwo 37 = .ok (.iconst 1, 1) := by decide +kernel
theorem dX0_addOfTwo_38 : decode cX0_addOfTwo 38 = .ok (.isub, 1) := by decide +kernel
theorem dX0_addOfTwo_39 : decode cX0_addOfTwo 39 = .ok (.iaload, 1) := by decide +kernel
theorem dX0_addOfTwo_40 : decode cX0_addOfTwo 40 = .ok (.aload_n 0, 1) := by decide +kernel
theorem dX0_addOfTwo_41 : decode cX0_addOfTwo 41 = .ok (.getfield 15, 3) := by decide +kernel
theorem dX0_addOfTwo_44 : decode cX0_addOfTwo 44 = .ok (.aload_n 0, 1) := by decide +kernel
theorem dX0_addOfTwo_45 : decode cX0_addOfTwo 45 = .ok (.getfield 21, 3) := by decide +kernel
theorem dX0_addOfTwo_48 : decode cX0_addOfTwo 48 = .ok (.iaload, 1) := by decide +kernel
theorem dX0_addOfTwo_49 : decode cX0_addOfTwo 49 = .ok (.invokestatic 43, 3) := by decide +kernel
theorem dX0_addOfTwo_52 : decode cX0_addOfTwo 52 = .ok (.iastore, 1) := by decide +kernel
theorem dX0_addOfTwo_53 : decode cX0_addOfTwo 53 = .ok (.goto 20, 3) := by decide +kernel
theorem dX0_addOfTwo_56 : decode cX0_addOfTwo 56 = .ok (.aload_n 0, 1) := by decide +kernel
theorem dX0_addOfTwo_57 : decode cX0_addOfTwo 57 = .ok (.iload_n 1, 1) := by decide +kernel
theorem dX0_addOfTwo_58 : decode cX0_addOfTwo 58 = .ok (.iconst 0, 1) := by decide +kernel
theorem dX0_addOfTwo_59 : decode cX0_addOfTwo 59 = .ok (.iconst 0, 1) := by decide +kernel
theorem dX0_addOfTwo_60 : decode cX0_addOfTwo 60 = .ok (.invokevirtual 39, 3) := by decide +kernel
theorem dX0_addOfTwo_63 : decode cX0_addOfTwo 63 = .ok (.aload_n 0, 1) := by decide +kernel
theorem dX0_addOfTwo_64 : decode cX0_addOfTwo 64 = .ok (.dup, 1) := by decide +kernel
theorem dX0_addOfTwo_65 : decode cX0_addOfTwo 65 = .ok (.getfield 28, 3) := by decide +kernel
theorem dX0_addOfTwo_68 : decode cX0_addOfTwo 68 = .ok (.iconst 1, 1) := by decide +kernel
theorem dX0_addOfTwo_69 : decode cX0_addOfTwo 69 = .ok (.iadd, 1) := by decide +kernel
theorem dX0_addOfTwo_70 : decode cX0_addOfTwo 70 = .ok (.putfield 28, 3) := by decide +kernel
theorem dX0_addOfTwo_73 : decode cX0_addOfTwo 73 = .ok (.return_, 1) := by decide +kernel
theorem dX0_endsInNumbers_0 : decode cX0_endsInNumbers 0 = .ok (.aload_n 0, 1) := by decide +kernel
theorem dX0_endsInNumbers_1 : decode cX0_endsInNumbers 1 = .ok (.getfield 21, 3) := by decide +kernel
theorem dX0_endsInNumbers_4 : decode cX0_endsInNumbers 4 = .ok (.iload_n 1, 1) := by decide +kernel
theorem dX0_endsInNumbers_5 : decode cX0_endsInNumbers 5 = .ok (.if_icmp .ge 5, 3) := by decide +kernel
theorem dX0_endsInNumbers_8 : decode cX0_endsInNumbers 8 = .ok (.iconst 0, 1) := by decide +kernel
theorem dX0_endsInNumbers_9 : decode cX0_endsInNumbers 9 = .ok (.ireturn, 1) := by decide +kernel
theorem dX0_endsInNumbers_10 : decode cX0_endsInNumbers 10 = .ok (.iconst 1, 1) := by decide +kernel
theorem dX0_endsInNumbers_11 : decode cX0_endsInNumbers 11 = .ok (.istore_n 2, 1) := by decide +kernel
theorem dX0_endsInNumbers_12 : decode cX0_endsInNumbers 12 = .ok (.iload_n 2, 1) := by decide +kernel
theorem dX0_endsInNumbers_13 : decode cX0_endsInNumbers 13 = .ok (.iload_n 1, 1) := by decide +kernel
theorem dX0_endsInNumbers_14 : decode cX0_endsInNumbers 14 = .ok (.if_icmp .gt 26, 3) := by decide +kernel
theorem dX0_endsInNumbers_17 : decode cX0_endsInNumbers 17 = .ok (.aload_n 0, 1) := by decide +kernel
theorem dX0_endsInNumbers_18 : decode cX0_endsInNumbers 18 = .ok (.getfield 9, 3) := by decide +kernel
theorem dX0_endsInNumbers_21 : decode cX0_endsInNumbers 21 = .ok (.aload_n 0, 1) := by decide +kernel
theorem dX0_endsInNumbers_22 : decode cX0_endsInNumbers 22 = .ok (.getfield 21, 3) := by decide +kernel
theorem dX0_endsInNumbers_25 : decode cX0_endsInNumbers 25 = .ok (.iload_n 2, 1) := by decide +kernel
theorem dX0_endsInNumbers_26 : decode cX0_endsInNumbers 26 = .ok (.isub, 1) := by decide +kernel
theorem dX0_endsInNumbers_27 : decode cX0_endsInNumbers 27 = .ok (.iaload, 1) := by decide +kernel
theorem dX0_endsInNumbers_28 : decode cX0_endsInNumbers 28 = .ok (.iconst 1, 1) := by decide +kernel
theorem dX0_endsInNumbers_29 : decode cX0_endsInNumbers 29 = .ok (.if_icmp .eq 5, 3) := by decide +kernel
theorem dX0_endsInNumbers_32 : decode cX0_endsInNumbers 32 = .ok (.iconst 0, 1) := by decide +kernel
theorem dX0_endsInNumbers_33 : decode cX0_endsInNumbers 33 = .ok (.ireturn, 1) := by decide +kernel
theorem dX0_endsInNumbers_34 : decode cX0_endsInNumbers 34 = .ok (.iinc 2 1, 3) := by decide +kernel
theorem dX0_endsInNumbers_37 : decode cX0_endsInNumbers 37 = .ok (.goto (-25), 3) := by decide +kernel
theorem dX0_endsInNumbers_40 : decode cX0_endsInNumbers 40 = .ok (.iconst 1, 1) := by decide +kernel
theorem dX0_endsInNumbers_41 : decode cX0_endsInNumbers 41 = .ok (.ireturn, 1) := by decide +kernel
theorem dX0_setFirst_0 : decode cX0_setFirst 0 = .ok (.iload_n 1, 1) := by decide +kernel
theorem dX0_setFirst_1 : decode cX0_setFirst 1 = .ok (.ifCond .lt 18, 3) := by decide +kernel
theorem dX0_setFirst_4 : decode cX0_setFirst 4 = .ok (.iload_n 1, 1) := by decide +kernel
theorem dX0_setFirst_5 : decode cX0_setFirst 5 = .ok (.aload_n 0, 1) := by decide +kernel
theorem dX0_setFirst_6 : decode cX0_setFirst 6 = .ok (.getfield 21, 3) := by decide +kernel
theorem dX0_setFirst_9 : decode cX0_setFirst 9 = .ok (.if_icmp .ge 10, 3) := by decide +kernel
theorem dX0_setFirst_12 : decode cX0_setFirst 12 = .ok (.aload_n 0, 1) := by decide +kernel
theorem dX0_setFirst_13 : decode cX0_setFirst 13 = .ok (.getfield 15, 3) := by decide +kernel
theorem dX0_setFirst_16 : decode cX0_setFirst 16 = .ok (.iload_n 1, 1) := by decide +kernel
theorem dX0_setFirst_17 : decode cX0_setFirst 17 = .ok (.iload_n 2, 1) := by decide +kernel
theorem dX0_setFirst_18 : decode cX0_setFirst 18 = .ok (.iastore, 1) := by decide +kernel
theorem dX0_setFirst_19 : decode cX0_setFirst 19 = .ok (.return_, 1) := by decide +kernel
theorem dX1_init_0 : decode cX1_init 0 = .ok (.aload_n 0, 1) := by decide +kernel
theorem dX1_init_1 : decode cX1_init 1 = .ok (.invokespecial 3, 3) := by decide +kernel
theorem dX1_init_4 : decode cX1_init 4 = .ok (.aload_n 0, 1) := by decide +kernel
theorem dX1_init_5 : decode cX1_init 5 = .ok (.sipush 192, 3) := by decide +kernel
theorem dX1_init_8 : decode cX1_init 8 = .ok (.newarray .int, 2) := by decide +kernel
theorem dX1_init_10 : decode cX1_init 10 = .ok (.putfield 9, 3) := by decide +kernel
theorem dX1_init_13 : decode cX1_init 13 = .ok (.aload_n 0, 1) := by decide +kernel
theorem dX1_init_14 : decode cX1_init 14 = .ok (.sipush 192, 3) := by decide +kernel
theorem dX1_init_17 : decode cX1_init 17 = .ok (.newarray .int, 2) := by decide +kernel
theorem dX1_init_19 : decode cX1_init 19 = .ok (.putfield 15, 3) := by decide +kernel
theorem dX1_init_22 : decode cX1_init 22 = .ok (.aload_n 0, 1) := by decide +kernel
theorem dX1_init_23 : decode cX1_init 23 = .ok (.bipush 26, 2) := by decide +kernel
theorem dX1_init_25 : decode cX1_init 25 = .ok (.newarray .int, 2) := by decide +kernel
theorem dX1_init_27 : decode cX1_init 27 = .ok (.putfield 18, 3) := by decide +kernel
theorem dX1_init_30 : decode cX1_init 30 = .ok (.aload_n 0, 1) := by decide +kernel
theorem dX1_init_31 : decode cX1_init 31 = .ok (.bipush 26, 2) := by decide +kernel
theorem dX1_init_33 : decode cX1_init 33 = .ok (.newarray .int, 2) := by decide +kernel
theorem dX1_init_35 : decode cX1_init 35 = .ok (.putfield 21, 3) := by decide +kernel
theorem dX1_init_38 : decode cX1_init 38 = .ok (.aload_n 0, 1) := by decide +kernel
theorem dX1_init_39 : decode cX1_init 39 = .ok (.bipush 16, 2) := by decide +kernel
theorem dX1_init_41 : decode cX1_init 41 = .ok (.newarray .int, 2) := by decide +kernel
theorem dX1_init_43 : decode cX1_init 43 = .ok (.putfield 24, 3) := by decide +kernel
theorem dX1_init_46 : decode cX1_init 46 = .ok (.return_, 1) := by decide +kernel
set_option maxRecDepth 20000 in
theorem ggX1_carriesOut_J7_fill_53178 : GoodIn wsX1_carriesOut wsJ7_fill_53178 := goodIn_r _ [16] (by decide +kernel) (by decide +kernel)
set_option maxRecDepth 20000 in
theorem gX1_carriesOut_J7_fill_53178 : GoodIn wsX1_carriesOut (va_wsS RX1 33 yJ7_fill_53178 wsJ7_fill_53178) := goodIn_app (goodIn_of _ (by decide +kernel)) ggX1_carriesOut_J7_fill_53178
set_option maxRecDepth 20000 in
theorem ggX1_carriesOut_X1_behind : GoodIn wsX1_carriesOut wsX1_behind := goodIn_r _ [21, 9, 22, 23, 24, 20, 25, 8, 26, 27, 28, 29, 30, 7, 31, 32, 33, 34, 35, 36, 37, 38, 10, 1, 39, 40, 41, 42, 43, 44, 45, 46, 47, 48, 49, 50, 51, 52, 53, 54, 55, 56, 57, 66, 67, 68, 69, 70, 71, 58, 59, 60, 61, 62, 63, 64, 65] (by decide +kernel) (by decide +kernel)
set_option maxRecDepth 20000 in
theorem gX1_carriesOut_X1_behind : GoodIn wsX1_carriesOut (wsV RX1 56 RX1 yX1_behind wsX1_behind) := goodIn_app (goodIn_of _ (by decide +kernel)) ggX1_carriesOut_X1_behind
theorem dX1_carriesOut_0 : decode cX1_carriesOut 0 = .ok (.aload_n 0, 1) := by decide +kernel
theorem dX1_carriesOut_1 : decode cX1_carriesOut 1 = .ok (.getfield 9, 3) := by decide +kernel
theorem dX1_carriesOut_4 : decode cX1_carriesOut 4 = .ok (.iconst 0, 1) := by decide +kernel
theorem dX1_carriesOut_5 : decode cX1_carriesOut 5 = .ok (.aload_n 0, 1) := by decide +kernel
theorem dX1_carriesOut_6 : decode cX1_carriesOut 6 = .ok (.getfield 15, 3) := by decide +kernel
theorem dX1_carriesOut_9 : decode cX1_carriesOut 9 = .ok (.iconst 0, 1) := by decide +kernel
theorem dX1_carriesOut_10 : decode cX1_carriesOut 10 = .ok (.sipush 192, 3) := by decide +kernel
theorem dX1_carriesOut_13 : decode cX1_carriesOut 13 = .ok (.invokestatic 27, 3) := by decide +kernel
theorem dX1_carriesOut_16 : decode cX1_carriesOut 16 = .ok (.aload_n 0, 1) := by decide +kernel
theorem dX1_carriesOut_17 : decode cX1_carriesOut 17 = .ok (.getfield 21, 3) := by decide +kernel
theorem dX1_carriesOut_20 : decode cX1_carriesOut 20 = .ok (.iconst 0, 1) := by decide +kernel
theorem dX1_carriesOut_21 : decode cX1_carriesOut 21 = .ok (.invokestatic 33, 3) := by decide +kernel
theorem dX1_carriesOut_24 : decode cX1_carriesOut 24 = .ok (.aload_n 0, 1) := by decide +kernel
theorem dX1_carriesOut_25 : decode cX1_carriesOut 25 = .ok (.iconst 0, 1) := by decide +kernel
theorem dX1_carriesOut_26 : decode cX1_carriesOut 26 = .ok (.putfield 39, 3) := by decide +kernel
theorem dX1_carriesOut_29 : decode cX1_carriesOut 29 = .ok (.aload_n 0, 1) := by decide +kernel
theorem dX1_carriesOut_30 : decode cX1_carriesOut 30 = .ok (.iconst 0, 1) := by decide +kernel
theorem dX1_carriesOut_31 : decode cX1_carriesOut 31 = .ok (.putfield 43, 3) := by decide +kernel
theorem dX1_carriesOut_34 : decode cX1_carriesOut 34 = .ok (.aload_n 0, 1) := by decide +kernel
theorem dX1_carriesOut_35 : decode cX1_carriesOut 35 = .ok (.iconst 0, 1) := by decide +kernel
theorem dX1_carriesOut_36 : decode cX1_carriesOut 36 = .ok (.putfield 46, 3) := by decide +kernel
theorem dX1_carriesOut_39 : decode cX1_carriesOut 39 = .ok (.iconst 0, 1) := by decide +kernel
theorem dX1_carriesOut_40 : decode cX1_carriesOut 40 = .ok (.istore_n 2, 1) := by decide +kernel
theorem dX1_carriesOut_41 : decode cX1_carriesOut 41 = .ok (.iconst 0, 1) := by decide +kernel
theorem dX1_carriesOut_42 : decode cX1_carriesOut 42 = .ok (.istore_n 3, 1) := by decide +kernel
theorem dX1_carriesOut_43 : decode cX1_carriesOut 43 = .ok (.iload_n 3, 1) := by decide +kernel
theorem dX1_carriesOut_44 : decode cX1_carriesOut 44 = .ok (.ldc 50, 2) := by decide +kernel
theorem dX1_carriesOut_46 : decode cX1_carriesOut 46 = .ok (.if_icmp .ge 31, 3) := by decide +kernel
theorem dX1_carriesOut_49 : decode cX1_carriesOut 49 = .ok (.iload_n 2, 1) := by decide +kernel
theorem dX1_carriesOut_50 : decode cX1_carriesOut 50 = .ok (.aload_n 1, 1) := by decide +kernel
theorem dX1_carriesOut_51 : decode cX1_carriesOut 51 = .ok (.getfield 51, 3) := by decide +kernel
theorem dX1_carriesOut_54 : decode cX1_carriesOut 54 = .ok (.if_icmp .ge 23, 3) := by decide +kernel
theorem dX1_carriesOut_57 : decode cX1_carriesOut 57 = .ok (.aload_n 0, 1) := by decide +kernel
theorem dX1_carriesOut_58 : decode cX1_carriesOut 58 = .ok (.getfield 46, 3) := by decide +kernel
theorem dX1_carriesOut_61 : decode cX1_carriesOut 61 = .ok (.ifCond .ne 16, 3) := by decide +kernel
theorem dX1_carriesOut_64 : decode cX1_carriesOut 64 = .ok (.aload_n 0, 1) := by decide +kernel
theorem dX1_carriesOut_65 : decode cX1_carriesOut 65 = .ok (.aload_n 1, 1) := by decide +kernel
theorem dX1_carriesOut_66 : decode cX1_carriesOut 66 = .ok (.iload_n 2, 1) := by decide +kernel
theorem dX1_carriesOut_67 : decode cX1_carriesOut 67 = .ok (.invokevirtual 56, 3) := by decide +kernel
theorem dX1_carriesOut_70 : decode cX1_carriesOut 70 = .ok (.istore_n 2, 1) := by decide +kernel
theorem dX1_carriesOut_71 : decode cX1_carriesOut 71 = .ok (.iinc 3 1, 3) := by decide +kernel
theorem dX1_carriesOut_74 : decode cX1_carriesOut 74 = .ok (.goto (-31), 3) := by decide +kernel
theorem dX1_carriesOut_77 : decode cX1_carriesOut 77 = .ok (.aload_n 0, 1) := by decide +kernel
theorem dX1_carriesOut_78 : decode cX1_carriesOut 78 = .ok (.getfield 46, 3) := by decide +kernel
theorem dX1_carriesOut_81 : decode cX1_carriesOut 81 = .ok (.ifCond .eq 22, 3) := by decide +kernel
theorem dX1_carriesOut_84 : decode cX1_carriesOut 84 = .ok (.aload_n 0, 1) := by decide +kernel
theorem dX1_carriesOut_85 : decode cX1_carriesOut 85 = .ok (.getfield 15, 3) := by decide +kernel
theorem dX1_carriesOut_88 : decode cX1_carriesOut 88 = .ok (.iconst 0, 1) := by decide +kernel
theorem dX1_carriesOut_89 : decode cX1_carriesOut 89 = .ok (.aload_n 0, 1) := by decide +kernel
theorem dX1_carriesOut_90 : decode cX1_carriesOut 90 = .ok (.getfield 9, 3) := by decide +kernel
theorem dX1_carriesOut_93 : decode cX1_carriesOut 93 = .ok (.iconst 0, 1) := by decide +kernel
theorem dX1_carriesOut_94 : decode cX1_carriesOut 94 = .ok (.sipush 192, 3) := by decide +kernel
theorem dX1_carriesOut_97 : decode cX1_carriesOut 97 = .ok (.invokestatic 27, 3) := by decide +kernel
theorem dX1_carriesOut_100 : decode cX1_carriesOut 100 = .ok (.goto 18, 3) := by decide +kernel
theorem dX1_carriesOut_103 : decode cX1_carriesOut 103 = .ok (.aload_n 0, 1) := by decide +kernel
theorem dX1_carriesOut_104 : decode cX1_carriesOut 104 = .ok (.getfield 21, 3) := by decide +kernel
theorem dX1_carriesOut_107 : decode cX1_carriesOut 107 = .ok (.iconst 0, 1) := by decide +kernel
theorem dX1_carriesOut_108 : decode cX1_carriesOut 108 = .ok (.aload_n 0, 1) := by decide +kernel
theorem dX1_carriesOut_109 : decode cX1_carriesOut 109 = .ok (.getfield 18, 3) := by decide +kernel
theorem dX1_carriesOut_112 : decode cX1_carriesOut 112 = .ok (.iconst 0, 1) := by decide +kernel
theorem dX1_carriesOut_113 : decode cX1_carriesOut 113 = .ok (.bipush 26, 2) := by decide +kernel
theorem dX1_carriesOut_115 : decode cX1_carriesOut 115 = .ok (.invokestatic 27, 3) := by decide +kernel
theorem dX1_carriesOut_118 : decode cX1_carriesOut 118 = .ok (.aload_n 0, 1) := by decide +kernel
theorem dX1_carriesOut_119 : decode cX1_carriesOut 119 = .ok (.getfield 46, 3) := by decide +kernel
theorem dX1_carriesOut_122 : decode cX1_carriesOut 122 = .ok (.ifCond .ne 7, 3) := by decide +kernel
theorem dX1_carriesOut_125 : decode cX1_carriesOut 125 = .ok (.iconst 1, 1) := by decide +kernel
theorem dX1_carriesOut_126 : decode cX1_carriesOut 126 = .ok (.goto 4, 3) := by decide +kernel
theorem dX1_carriesOut_129 : decode cX1_carriesOut 129 = .ok (.iconst 0, 1) := by decide +kernel
theorem dX1_carriesOut_130 : decode cX1_carriesOut 130 = .ok (.ireturn, 1) := by decide +kernel
set_option maxRecDepth 20000 in
theorem ggX1_behind_X1_push : GoodIn wsX1_behind wsX1_push := goodIn_r _ [6, 7, 8, 49, 50, 51, 52, 53, 54, 55, 56] (by decide +kernel) (by decide +kernel)
set_option maxRecDepth 20000 in
theorem gX1_behind_X1_push : GoodIn wsX1_behind (wsV RX1 66 RX1 yX1_push wsX1_push) := goodIn_app (goodIn_of _ (by decide +kernel)) ggX1_behind_X1_push
set_option maxRecDepth 20000 in
theorem ggX1_behind_X1_named : GoodIn wsX1_behind wsX1_named := goodIn_r _ [12, 13, 49, 50, 51, 52, 53, 54, 55, 56] (by decide +kernel) (by decide +kernel)
set_option maxRecDepth 20000 in
theorem gX1_behind_X1_named : GoodIn wsX1_behind (wsV RX1 70 RX1 yX1_named wsX1_named) := goodIn_app (goodIn_of _ (by decide +kernel)) ggX1_behind_X1_named
set_option maxRecDepth 20000 in
theorem ggX1_behind_X1_pop : GoodIn wsX1_behind wsX1_pop := goodIn_r _ [17, 7, 8, 49, 50, 51, 52, 53, 54, 55, 56] (by decide +kernel) (by decide +kernel)
set_option maxRecDepth 20000 in
theorem gX1_behind_X1_pop : GoodIn wsX1_behind (wsV RX1 74 RX1 yX1_pop wsX1_pop) := goodIn_app (goodIn_of _ (by decide +kernel)) ggX1_behind_X1_pop
set_option maxRecDepth 20000 in
theorem ggX1_behind_X1_loaded : GoodIn wsX1_behind wsX1_loaded := goodIn_r _ [21, 22, 23, 24, 25, 26, 49, 50, 51, 52, 53, 54, 55, 56] (by decide +kernel) (by decide +kernel)
set_option maxRecDepth 20000 in
theorem gX1_behind_X1_loaded : GoodIn wsX1_behind (wsV RX1 78 RX1 yX1_loaded wsX1_loaded) := goodIn_app (goodIn_of _ (by decide +kernel)) ggX1_behind_X1_loaded
set_option maxRecDepth 20000 in
theorem ggX1_behind_X1_name : GoodIn wsX1_behind wsX1_name := goodIn_r _ [30, 13, 49, 50, 51, 52, 53, 54, 55, 56] (by decide +kernel) (by decide +kernel)
set_option maxRecDepth 20000 in
theorem gX1_behind_X1_name : GoodIn wsX1_behind (wsV RX1 81 RX1 yX1_name wsX1_name) := goodIn_app (goodIn_of _ (by decide +kernel)) ggX1_behind_X1_name
set_option maxRecDepth 20000 in
theorem ggX1_behind_X1_store : GoodIn wsX1_behind wsX1_store := goodIn_r _ [34, 23, 22, 24, 25, 26, 49, 50, 51, 52, 53, 54, 55, 56] (by decide +kernel) (by decide +kernel)
set_option maxRecDepth 20000 in
theorem gX1_behind_X1_store : GoodIn wsX1_behind (wsV RX1 85 RX1 yX1_store wsX1_store) := goodIn_app (goodIn_of _ (by decide +kernel)) ggX1_behind_X1_store
set_option maxRecDepth 20000 in
theorem ggX1_behind_X1_turnsAgain : GoodIn wsX1_behind wsX1_turnsAgain := goodIn_r _ [38, 9, 10, 11, 5, 12, 13, 27, 28, 29, 30, 43, 44, 45, 46, 47, 48, 49, 50, 51, 52, 53, 54, 55, 56] (by decide +kernel) (by decide +kernel)
set_option maxRecDepth 20000 in
theorem gX1_behind_X1_turnsAgain : GoodIn wsX1_behind (wsV RX1 88 RX1 yX1_turnsAgain wsX1_turnsAgain) := goodIn_app (goodIn_of _ (by decide +kernel)) ggX1_behind_X1_turnsAgain
set_option maxRecDepth 20000 in
theorem ggX1_behind_X3_ofOne : GoodIn wsX1_behind wsX3_ofOne := goodIn_r _ [40] (by decide +kernel) (by decide +kernel)
set_option maxRecDepth 20000 in
theorem gX1_behind_X3_ofOne_n92 : GoodIn wsX1_behind (wsX3_ofOne) := ggX1_behind_X3_ofOne
set_option maxRecDepth 20000 in
theorem ggX1_behind_X3_ofTwo : GoodIn wsX1_behind wsX3_ofTwo := goodIn_r _ [42] (by decide +kernel) (by decide +kernel)
set_option maxRecDepth 20000 in
theorem gX1_behind_X3_ofTwo_n96 : GoodIn wsX1_behind (wsX3_ofTwo) := ggX1_behind_X3_ofTwo
theorem dX1_behind_0 : decode cX1_behind 0 = .ok (.iload_n 2, 1) := by decide +kernel
theorem dX1_behind_1 : decode cX1_behind 1 = .ok (.ifCond .lt 11, 3) := by decide +kernel
theorem dX1_behind_4 : decode cX1_behind 4 = .ok (.iload_n 2, 1) := by decide +kernel
theorem dX1_behind_5 : decode cX1_behind 5 = .ok (.aload_n 1, 1) := by decide +kernel
theorem dX1_behind_6 : decode cX1_behind 6 = .ok (.getfield 51, 3) := by decide +kernel
theorem dX1_behind_9 : decode cX1_behind 9 = .ok (.if_icmp .lt 8, 3) := by decide +kernel
theorem dX1_behind_12 : decode cX1_behind 12 = .ok (.aload_n 1, 1) := by decide +kernel
theorem dX1_behind_13 : decode cX1_behind 13 = .ok (.getfield 51, 3) := by decide +kernel
theorem dX1_behind_16 : decode cX1_behind 16 = .ok (.ireturn, 1) := by decide +kernel
theorem dX1_behind_17 : decode cX1_behind 17 = .ok (.aload_n 1, 1) := by decide +kernel
theorem dX1_behind_18 : decode cX1_behind 18 = .ok (.getfield 60, 3) := by decide +kernel
theorem dX1_behind_21 : decode cX1_behind 21 = .ok (.iload_n 2, 1) := by decide +kernel
theorem dX1_behind_22 : decode cX1_behind 22 = .ok (.iaload, 1) := by decide +kernel
theorem dX1_behind_23 : decode cX1_behind 23 = .ok (.istore_n 3, 1) := by decide +kernel
theorem dX1_behind_24 : decode cX1_behind 24 = .ok (.aload_n 1, 1) := by decide +kernel
theorem dX1_behind_25 : decode cX1_behind 25 = .ok (.getfield 63, 3) := by decide +kernel
theorem dX1_behind_28 : decode cX1_behind 28 = .ok (.iload_n 2, 1) := by decide +kernel
theorem dX1_behind_29 : decode cX1_behind 29 = .ok (.iaload, 1) := by decide +kernel
theorem dX1_behind_30 : decode cX1_behind 30 = .ok (.lookupswitch 248 #[(1, 98), (2, 106), (3, 118), (4, 133), (5, 155), (6, 184), (7, 193), (8, 212), (60, 227), (62, 227), (126, 227)], 98) := by decide +kernel
theorem dX1_behind_128 : decode cX1_behind 128 = .ok (.aload_n 0, 1) := by decide +kernel
theorem dX1_behind_129 : decode cX1_behind 129 = .ok (.iload_n 3, 1) := by decide +kernel
theorem dX1_behind_130 : decode cX1_behind 130 = .ok (.invokevirtual 66, 3) := by decide +kernel
theorem dX1_behind_133 : decode cX1_behind 133 = .ok (.goto 170, 3) := by decide +kernel
theorem dX1_behind_136 : decode cX1_behind 136 = .ok (.aload_n 0, 1) := by decide +kernel
theorem dX1_behind_137 : decode cX1_behind 137 = .ok (.aload_n 0, 1) := by decide +kernel
theorem dX1_behind_138 : decode cX1_behind 138 = .ok (.iload_n 3, 1) := by decide +kernel
theorem dX1_behind_139 : decode cX1_behind 139 = .ok (.invokevirtual 70, 3) := by decide +kernel
theorem dX1_behind_142 : decode cX1_behind 142 = .ok (.invokevirtual 66, 3) := by decide +kernel
theorem dX1_behind_145 : decode cX1_behind 145 = .ok (.goto 158, 3) := by decide +kernel
theorem dX1_behind_148 : decode cX1_behind 148 = .ok (.aload_n 0, 1) := by decide +kernel
theorem dX1_behind_149 : decode cX1_behind 149 = .ok (.aload_n 0, 1) := by decide +kernel
theorem dX1_behind_150 : decode cX1_behind 150 = .ok (.aload_n 0, 1) := by decide +kernel
theorem dX1_behind_151 : decode cX1_behind 151 = .ok (.invokevirtual 74, 3) := by decide +kernel
theorem dX1_behind_154 : decode cX1_behind 154 = .ok (.invokevirtual 78, 3) := by decide +kernel
theorem dX1_behind_157 : decode cX1_behind 157 = .ok (.invokevirtual 66, 3) := by decide +kernel
theorem dX1_behind_160 : decode cX1_behind 160 = .ok (.goto 143, 3) := by decide +kernel
theorem dX1_behind_163 : decode cX1_behind 163 = .ok (.aload_n 0, 1) := by decide +kernel
theorem dX1_behind_164 : decode cX1_behind 164 = .ok (.iload_n 3, 1) := by decide +kernel
theorem dX1_behind_165 : decode cX1_behind 165 = .ok (.aload_n 0, 1) := by decide +kernel
theorem dX1_behind_166 : decode cX1_behind 166 = .ok (.invokevirtual 74, 3) := by decide +kernel
theorem dX1_behind_169 : decode cX1_behind 169 = .ok (.invokevirtual 81, 3) := by decide +kernel
theorem dX1_behind_172 : decode cX1_behind 172 = .ok (.aload_n 0, 1) := by decide +kernel
theorem dX1_behind_173 : decode cX1_behind 173 = .ok (.dup, 1) := by decide +kernel
theorem dX1_behind_174 : decode cX1_behind 174 = .ok (.getfield 43, 3) := by decide +kernel
theorem dX1_behind_177 : decode cX1_behind 177 = .ok (.iconst 1, 1) := by decide +kernel
theorem dX1_behind_178 : decode cX1_behind 178 = .ok (.iadd, 1) := by decide +kernel
theorem dX1_behind_179 : decode cX1_behind 179 = .ok (.putfield 43, 3) := by decide +kernel
theorem dX1_behind_182 : decode cX1_behind 182 = .ok (.goto 121, 3) := by decide +kernel
theorem dX1_behind_185 : decode cX1_behind 185 = .ok (.aload_n 0, 1) := by decide +kernel
theorem dX1_behind_186 : decode cX1_behind 186 = .ok (.invokevirtual 74, 3) := by decide +kernel
theorem dX1_behind_189 : decode cX1_behind 189 = .ok (.istore 4, 2) := by decide +kernel
theorem dX1_behind_191 : decode cX1_behind 191 = .ok (.aload_n 0, 1) := by decide +kernel
theorem dX1_behind_192 : decode cX1_behind 192 = .ok (.aload_n 0, 1) := by decide +kernel
theorem dX1_behind_193 : decode cX1_behind 193 = .ok (.invokevirtual 74, 3) := by decide +kernel
theorem dX1_behind_196 : decode cX1_behind 196 = .ok (.iload 4, 2) := by decide +kernel
theorem dX1_behind_198 : decode cX1_behind 198 = .ok (.invokevirtual 85, 3) := by decide +kernel
theorem dX1_behind_201 : decode cX1_behind 201 = .ok (.aload_n 0, 1) := by decide +kernel
theorem dX1_behind_202 : decode cX1_behind 202 = .ok (.dup, 1) := by decide +kernel
theorem dX1_behind_203 : decode cX1_behind 203 = .ok (.getfield 43, 3) := by decide +kernel
theorem dX1_behind_206 : decode cX1_behind 206 = .ok (.iconst 1, 1) := by decide +kernel
theorem dX1_behind_207 : decode cX1_behind 207 = .ok (.iadd, 1) := by decide +kernel
theorem dX1_behind_208 : decode cX1_behind 208 = .ok (.putfield 43, 3) := by decide +kernel
theorem dX1_behind_211 : decode cX1_behind 211 = .ok (.goto 92, 3) := by decide +kernel
theorem dX1_behind_214 : decode cX1_behind 214 = .ok (.aload_n 0, 1) := by decide +kernel
theorem dX1_behind_215 : decode cX1_behind 215 = .ok (.iload_n 3, 1) := by decide +kernel
theorem dX1_behind_216 : decode cX1_behind 216 = .ok (.iconst 0, 1) := by decide +kernel
theorem dX1_behind_217 : decode cX1_behind 217 = .ok (.invokevirtual 81, 3) := by decide +kernel
theorem dX1_behind_220 : decode cX1_behind 220 = .ok (.goto 83, 3) := by decide +kernel
theorem dX1_behind_223 : decode cX1_behind 223 = .ok (.aload_n 0, 1) := by decide +kernel
theorem dX1_behind_224 : decode cX1_behind 224 = .ok (.aload_n 1, 1) := by decide +kernel
theorem dX1_behind_225 : decode cX1_behind 225 = .ok (.iload_n 3, 1) := by decide +kernel
theorem dX1_behind_226 : decode cX1_behind 226 = .ok (.invokevirtual 88, 3) := by decide +kernel
theorem dX1_behind_229 : decode cX1_behind 229 = .ok (.ifCond .eq 9, 3) := by decide +kernel
theorem dX1_behind_232 : decode cX1_behind 232 = .ok (.iload_n 3, 1) := by decide +kernel
theorem dX1_behind_233 : decode cX1_behind 233 = .ok (.iconst 1, 1) := by decide +kernel
theorem dX1_behind_234 : decode cX1_behind 234 = .ok (.iadd, 1) := by decide +kernel
theorem dX1_behind_235 : decode cX1_behind 235 = .ok (.goto 6, 3) := by decide +kernel
theorem dX1_behind_238 : decode cX1_behind 238 = .ok (.iload_n 2, 1) := by decide +kernel
theorem dX1_behind_239 : decode cX1_behind 239 = .ok (.iconst 1, 1) := by decide +kernel
theorem dX1_behind_240 : decode cX1_behind 240 = .ok (.iadd, 1) := by decide +kernel
theorem dX1_behind_241 : decode cX1_behind 241 = .ok (.ireturn, 1) := by decide +kernel
theorem dX1_behind_242 : decode cX1_behind 242 = .ok (.aload_n 0, 1) := by decide +kernel
theorem dX1_behind_243 : decode cX1_behind 243 = .ok (.invokevirtual 74, 3) := by decide +kernel
theorem dX1_behind_246 : decode cX1_behind 246 = .ok (.ifCond .ne 7, 3) := by decide +kernel
theorem dX1_behind_249 : decode cX1_behind 249 = .ok (.iload_n 3, 1) := by decide +kernel
theorem dX1_behind_250 : decode cX1_behind 250 = .ok (.goto 6, 3) := by decide +kernel
theorem dX1_behind_253 : decode cX1_behind 253 = .ok (.iload_n 2, 1) := by decide +kernel
theorem dX1_behind_254 : decode cX1_behind 254 = .ok (.iconst 1, 1) := by decide +kernel
theorem dX1_behind_255 : decode cX1_behind 255 = .ok (.iadd, 1) := by decide +kernel
theorem dX1_behind_256 : decode cX1_behind 256 = .ok (.ireturn, 1) := by decide +kernel
theorem dX1_behind_257 : decode cX1_behind 257 = .ok (.aload_n 0, 1) := by decide +kernel
theorem dX1_behind_258 : decode cX1_behind 258 = .ok (.aload_n 1, 1) := by decide +kernel
theorem dX1_behind_259 : decode cX1_behind 259 = .ok (.getfield 63, 3) := by decide +kernel
theorem dX1_behind_262 : decode cX1_behind 262 = .ok (.iload_n 2, 1) := by decide +kernel
theorem dX1_behind_263 : decode cX1_behind 263 = .ok (.iaload, 1) := by decide +kernel
theorem dX1_behind_264 : decode cX1_behind 264 = .ok (.aload_n 0, 1) := by decide +kernel
theorem dX1_behind_265 : decode cX1_behind 265 = .ok (.invokevirtual 74, 3) := by decide +kernel
theorem dX1_behind_268 : decode cX1_behind 268 = .ok (.iload_n 3, 1) := by decide +kernel
theorem dX1_behind_269 : decode cX1_behind 269 = .ok (.invokestatic 92, 3) := by decide +kernel
theorem dX1_behind_272 : decode cX1_behind 272 = .ok (.invokevirtual 66, 3) := by decide +kernel
theorem dX1_behind_275 : decode cX1_behind 275 = .ok (.goto 28, 3) := by decide +kernel
theorem dX1_behind_278 : decode cX1_behind 278 = .ok (.aload_n 0, 1) := by decide +kernel
theorem dX1_behind_279 : decode cX1_behind 279 = .ok (.invokevirtual 74, 3) := by decide +kernel
theorem dX1_behind_282 : decode cX1_behind 282 = .ok (.istore 5, 2) := by decide +kernel
theorem dX1_behind_284 : decode cX1_behind 284 = .ok (.aload_n 0, 1) := by decide +kernel
theorem dX1_behind_285 : decode cX1_behind 285 = .ok (.aload_n 1, 1) := by decide +kernel
theorem dX1_behind_286 : decode cX1_behind 286 = .ok (.getfield 63, 3) := by decide +kernel
theorem dX1_behind_289 : decode cX1_behind 289 = .ok (.iload_n 2, 1) := by decide +kernel
theorem dX1_behind_290 : decode cX1_behind 290 = .ok (.iaload, 1) := by decide +kernel
theorem dX1_behind_291 : decode cX1_behind 291 = .ok (.aload_n 0, 1) := by decide +kernel
theorem dX1_behind_292 : decode cX1_behind 292 = .ok (.invokevirtual 74, 3) := by decide +kernel
theorem dX1_behind_295 : decode cX1_behind 295 = .ok (.iload 5, 2) := by decide +kernel
theorem dX1_behind_297 : decode cX1_behind 297 = .ok (.invokestatic 96, 3) := by decide +kernel
theorem dX1_behind_300 : decode cX1_behind 300 = .ok (.invokevirtual 66, 3) := by decide +kernel
theorem dX1_behind_303 : decode cX1_behind 303 = .ok (.iload_n 2, 1) := by decide +kernel
theorem dX1_behind_304 : decode cX1_behind 304 = .ok (.iconst 1, 1) := by decide +kernel
theorem dX1_behind_305 : decode cX1_behind 305 = .ok (.iadd, 1) := by decide +kernel
theorem dX1_behind_306 : decode cX1_behind 306 = .ok (.ireturn, 1) := by decide +kernel
set_option maxRecDepth 20000 in
theorem ggX1_turnsAgain_X1_named : GoodIn wsX1_turnsAgain wsX1_named := goodIn_r _ [5, 6, 17, 18, 19, 20, 21, 22, 23, 24] (by decide +kernel) (by decide +kernel)
set_option maxRecDepth 20000 in
theorem gX1_turnsAgain_X1_named : GoodIn wsX1_turnsAgain (wsV RX1 70 RX1 yX1_named wsX1_named) := goodIn_app (goodIn_of _ (by decide +kernel)) ggX1_turnsAgain_X1_named
set_option maxRecDepth 20000 in
theorem ggX1_turnsAgain_X1_name : GoodIn wsX1_turnsAgain wsX1_name := goodIn_r _ [10, 6, 17, 18, 19, 20, 21, 22, 23, 24] (by decide +kernel) (by decide +kernel)
set_option maxRecDepth 20000 in
theorem gX1_turnsAgain_X1_name : GoodIn wsX1_turnsAgain (wsV RX1 81 RX1 yX1_name wsX1_name) := goodIn_app (goodIn_of _ (by decide +kernel)) ggX1_turnsAgain_X1_name
theorem dX1_turnsAgain_0 : decode cX1_turnsAgain 0 = .ok (.iload_n 2, 1) := by decide +kernel
theorem dX1_turnsAgain_1 : decode cX1_turnsAgain 1 = .ok (.ifCond .lt 11, 3) := by decide +kernel
theorem dX1_turnsAgain_4 : decode cX1_turnsAgain 4 = .ok (.iload_n 2, 1) := by decide +kernel
theorem dX1_turnsAgain_5 : decode cX1_turnsAgain 5 = .ok (.aload_n 1, 1) := by decide +kernel
theorem dX1_turnsAgain_6 : decode cX1_turnsAgain 6 = .ok (.getfield 51, 3) := by decide +kernel
theorem dX1_turnsAgain_9 : decode cX1_turnsAgain 9 = .ok (.if_icmp .lt 5, 3) := by decide +kernel
theorem dX1_turnsAgain_12 : decode cX1_turnsAgain 12 = .ok (.iconst 0, 1) := by decide +kernel
theorem dX1_turnsAgain_13 : decode cX1_turnsAgain 13 = .ok (.ireturn, 1) := by decide +kernel
theorem dX1_turnsAgain_14 : decode cX1_turnsAgain 14 = .ok (.aload_n 1, 1) := by decide +kernel
theorem dX1_turnsAgain_15 : decode cX1_turnsAgain 15 = .ok (.getfield 60, 3) := by decide +kernel
theorem dX1_turnsAgain_18 : decode cX1_turnsAgain 18 = .ok (.iload_n 2, 1) := by decide +kernel
theorem dX1_turnsAgain_19 : decode cX1_turnsAgain 19 = .ok (.iaload, 1) := by decide +kernel
theorem dX1_turnsAgain_20 : decode cX1_turnsAgain 20 = .ok (.istore_n 3, 1) := by decide +kernel
theorem dX1_turnsAgain_21 : decode cX1_turnsAgain 21 = .ok (.aload_n 0, 1) := by decide +kernel
theorem dX1_turnsAgain_22 : decode cX1_turnsAgain 22 = .ok (.iload_n 3, 1) := by decide +kernel
theorem dX1_turnsAgain_23 : decode cX1_turnsAgain 23 = .ok (.invokevirtual 70, 3) := by decide +kernel
theorem dX1_turnsAgain_26 : decode cX1_turnsAgain 26 = .ok (.iconst 1, 1) := by decide +kernel
theorem dX1_turnsAgain_27 : decode cX1_turnsAgain 27 = .ok (.iadd, 1) := by decide +kernel
theorem dX1_turnsAgain_28 : decode cX1_turnsAgain 28 = .ok (.istore 4, 2) := by decide +kernel
theorem dX1_turnsAgain_30 : decode cX1_turnsAgain 30 = .ok (.iload 4, 2) := by decide +kernel
theorem dX1_turnsAgain_32 : decode cX1_turnsAgain 32 = .ok (.aload_n 1, 1) := by decide +kernel
theorem dX1_turnsAgain_33 : decode cX1_turnsAgain 33 = .ok (.getfield 99, 3) := by decide +kernel
theorem dX1_turnsAgain_36 : decode cX1_turnsAgain 36 = .ok (.iload_n 2, 1) := by decide +kernel
theorem dX1_turnsAgain_37 : decode cX1_turnsAgain 37 = .ok (.iaload, 1) := by decide +kernel
theorem dX1_turnsAgain_38 : decode cX1_turnsAgain 38 = .ok (.if_icmp .lt 5, 3) := by decide +kernel
theorem dX1_turnsAgain_41 : decode cX1_turnsAgain 41 = .ok (.iconst 0, 1) := by decide +kernel
theorem dX1_turnsAgain_42 : decode cX1_turnsAgain 42 = .ok (.ireturn, 1) := by decide +kernel
theorem dX1_turnsAgain_43 : decode cX1_turnsAgain 43 = .ok (.aload_n 0, 1) := by decide +kernel
theorem dX1_turnsAgain_44 : decode cX1_turnsAgain 44 = .ok (.iload_n 3, 1) := by decide +kernel
theorem dX1_turnsAgain_45 : decode cX1_turnsAgain 45 = .ok (.iload 4, 2) := by decide +kernel
theorem dX1_turnsAgain_47 : decode cX1_turnsAgain 47 = .ok (.invokevirtual 81, 3) := by decide +kernel
theorem dX1_turnsAgain_50 : decode cX1_turnsAgain 50 = .ok (.iconst 1, 1) := by decide +kernel
theorem dX1_turnsAgain_51 : decode cX1_turnsAgain 51 = .ok (.ireturn, 1) := by decide +kernel
set_option maxRecDepth 20000 in
theorem ggX1_loaded_X3_isAddress : GoodIn wsX1_loaded wsX3_isAddress := goodIn_r _ [5] (by decide +kernel) (by decide +kernel)
set_option maxRecDepth 20000 in
theorem gX1_loaded_X3_isAddress_n102 : GoodIn wsX1_loaded (wsX3_isAddress) := ggX1_loaded_X3_isAddress
theorem dX1_loaded_0 : decode cX1_loaded 0 = .ok (.iload_n 1, 1) := by decide +kernel
theorem dX1_loaded_1 : decode cX1_loaded 1 = .ok (.invokestatic 102, 3) := by decide +kernel
theorem dX1_loaded_4 : decode cX1_loaded 4 = .ok (.ifCond .ne 10, 3) := by decide +kernel
theorem dX1_loaded_7 : decode cX1_loaded 7 = .ok (.aload_n 0, 1) := by decide +kernel
theorem dX1_loaded_8 : decode cX1_loaded 8 = .ok (.iconst 1, 1) := by decide +kernel
theorem dX1_loaded_9 : decode cX1_loaded 9 = .ok (.putfield 46, 3) := by decide +kernel
theorem dX1_loaded_12 : decode cX1_loaded 12 = .ok (.iconst 0, 1) := by decide +kernel
theorem dX1_loaded_13 : decode cX1_loaded 13 = .ok (.ireturn, 1) := by decide +kernel
theorem dX1_loaded_14 : decode cX1_loaded 14 = .ok (.aload_n 0, 1) := by decide +kernel
theorem dX1_loaded_15 : decode cX1_loaded 15 = .ok (.getfield 9, 3) := by decide +kernel
theorem dX1_loaded_18 : decode cX1_loaded 18 = .ok (.iload_n 1, 1) := by decide +kernel
theorem dX1_loaded_19 : decode cX1_loaded 19 = .ok (.iaload, 1) := by decide +kernel
theorem dX1_loaded_20 : decode cX1_loaded 20 = .ok (.ireturn, 1) := by decide +kernel
set_option maxRecDepth 20000 in
theorem ggX1_store_X3_isAddress : GoodIn wsX1_store wsX3_isAddress := goodIn_r _ [5] (by decide +kernel) (by decide +kernel)
set_option maxRecDepth 20000 in
theorem gX1_store_X3_isAddress_n102 : GoodIn wsX1_store (wsX3_isAddress) := ggX1_store_X3_isAddress
theorem dX1_store_0 : decode cX1_store 0 = .ok (.iload_n 1, 1) := by decide +kernel
theorem dX1_store_1 : decode cX1_store 1 = .ok (.invokestatic 102, 3) := by decide +kernel
theorem dX1_store_4 : decode cX1_store 4 = .ok (.ifCond .eq 13, 3) := by decide +kernel
theorem dX1_store_7 : decode cX1_store 7 = .ok (.aload_n 0, 1) := by decide +kernel
theorem dX1_store_8 : decode cX1_store 8 = .ok (.getfield 9, 3) := by decide +kernel
theorem dX1_store_11 : decode cX1_store 11 = .ok (.iload_n 1, 1) := by decide +kernel
theorem dX1_store_12 : decode cX1_store 12 = .ok (.iload_n 2, 1) := by decide +kernel
theorem dX1_store_13 : decode cX1_store 13 = .ok (.iastore, 1) := by decide +kernel
theorem dX1_store_14 : decode cX1_store 14 = .ok (.goto 8, 3) := by decide +kernel
theorem dX1_store_17 : decode cX1_store 17 = .ok (.aload_n 0, 1) := by decide +kernel
theorem dX1_store_18 : decode cX1_store 18 = .ok (.iconst 1, 1) := by decide +kernel
theorem dX1_store_19 : decode cX1_store 19 = .ok (.putfield 46, 3) := by decide +kernel
theorem dX1_store_22 : decode cX1_store 22 = .ok (.return_, 1) := by decide +kernel
theorem dX1_named_0 : decode cX1_named 0 = .ok (.iload_n 1, 1) := by decide +kernel
theorem dX1_named_1 : decode cX1_named 1 = .ok (.ifCond .lt 18, 3) := by decide +kernel
theorem dX1_named_4 : decode cX1_named 4 = .ok (.iload_n 1, 1) := by decide +kernel
theorem dX1_named_5 : decode cX1_named 5 = .ok (.bipush 26, 2) := by decide +kernel
theorem dX1_named_7 : decode cX1_named 7 = .ok (.if_icmp .ge 12, 3) := by decide +kernel
theorem dX1_named_10 : decode cX1_named 10 = .ok (.aload_n 0, 1) := by decide +kernel
theorem dX1_named_11 : decode cX1_named 11 = .ok (.getfield 21, 3) := by decide +kernel
theorem dX1_named_14 : decode cX1_named 14 = .ok (.iload_n 1, 1) := by decide +kernel
theorem dX1_named_15 : decode cX1_named 15 = .ok (.iaload, 1) := by decide +kernel
theorem dX1_named_16 : decode cX1_named 16 = .ok (.goto 4, 3) := by decide +kernel
theorem dX1_named_19 : decode cX1_named 19 = .ok (.iconst 0, 1) := by decide +kernel
theorem dX1_named_20 : decode cX1_named 20 = .ok (.ireturn, 1) := by decide +kernel
theorem dX1_name_0 : decode cX1_name 0 = .ok (.iload_n 1, 1) := by decide +kernel
theorem dX1_name_1 : decode cX1_name 1 = .ok (.ifCond .lt 16, 3) := by decide +kernel
theorem dX1_name_4 : decode cX1_name 4 = .ok (.iload_n 1, 1) := by decide +kernel
theorem dX1_name_5 : decode cX1_name 5 = .ok (.bipush 26, 2) := by decide +kernel
theorem dX1_name_7 : decode cX1_name 7 = .ok (.if_icmp .ge 10, 3) := by decide +kernel
