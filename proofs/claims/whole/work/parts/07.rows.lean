theorem dX3_write_78 : decode cX3_write 78 = .ok (.iload 4, 2) := by decide +kernel
theorem dX3_write_80 : decode cX3_write 80 = .ok (.invokestatic 34, 3) := by decide +kernel
theorem dX3_write_83 : decode cX3_write 83 = .ok (.istore 5, 2) := by decide +kernel
theorem dX3_write_85 : decode cX3_write 85 = .ok (.iload 5, 2) := by decide +kernel
theorem dX3_write_87 : decode cX3_write 87 = .ok (.ifCond .eq 12, 3) := by decide +kernel
theorem dX3_write_90 : decode cX3_write 90 = .ok (.aload_n 0, 1) := by decide +kernel
theorem dX3_write_91 : decode cX3_write 91 = .ok (.getfield 10, 3) := by decide +kernel
theorem dX3_write_94 : decode cX3_write 94 = .ok (.iload 5, 2) := by decide +kernel
theorem dX3_write_96 : decode cX3_write 96 = .ok (.invokevirtual 42, 3) := by decide +kernel
theorem dX3_write_99 : decode cX3_write 99 = .ok (.iinc 4 1, 3) := by decide +kernel
theorem dX3_write_102 : decode cX3_write 102 = .ok (.goto (-32), 3) := by decide +kernel
theorem dX3_write_105 : decode cX3_write 105 = .ok (.iconst 1, 1) := by decide +kernel
theorem dX3_write_106 : decode cX3_write 106 = .ok (.ireturn, 1) := by decide +kernel
theorem dX3_wipe_0 : decode cX3_wipe 0 = .ok (.aload_n 0, 1) := by decide +kernel
theorem dX3_wipe_1 : decode cX3_wipe 1 = .ok (.getfield 10, 3) := by decide +kernel
theorem dX3_wipe_4 : decode cX3_wipe 4 = .ok (.iconst 0, 1) := by decide +kernel
theorem dX3_wipe_5 : decode cX3_wipe 5 = .ok (.putfield 38, 3) := by decide +kernel
theorem dX3_wipe_8 : decode cX3_wipe 8 = .ok (.return_, 1) := by decide +kernel
set_option maxRecDepth 20000 in
theorem ggX3_compile_X2_readText : GoodIn wsX3_compile wsX2_readText := goodIn_r _ [9, 10, 11, 12, 13, 14, 15, 16, 17, 18, 19, 20, 21, 22, 23, 24, 7, 25, 26, 27, 28, 29, 30, 31, 32, 33, 34, 35, 36, 37, 38, 39, 40, 41, 42, 43, 44, 45, 46, 47, 48, 49, 50, 51, 52, 53, 54, 55, 56, 57, 58, 59, 60, 61, 62, 63, 64, 65, 66, 67, 68, 69, 70, 71, 72, 73, 74, 75, 76, 77, 78, 79, 80, 81, 82, 83, 84, 85, 86, 87, 88, 89, 90, 91, 92, 93, 94, 95, 96, 97, 98, 99, 100, 101, 102, 103, 104, 105, 106, 107, 108, 109, 110, 111, 112, 113, 114, 115, 116, 117, 118, 119, 120, 121, 122, 123, 124, 125, 139, 140, 141, 142, 143, 144, 145, 146, 133, 134, 135, 136, 137, 138] (by decide +kernel) (by decide +kernel)
set_option maxRecDepth 20000 in
theorem gX3_compile_X2_readText_n46 : GoodIn wsX3_compile (wsX2_readText) := ggX3_compile_X2_readText
set_option maxRecDepth 20000 in
theorem ggX3_compile_X2_exchanged : GoodIn wsX3_compile wsX2_exchanged := goodIn_r _ [128, 10, 139, 140, 141, 142, 143, 144, 145, 146] (by decide +kernel) (by decide +kernel)
set_option maxRecDepth 20000 in
theorem gX3_compile_X2_exchanged_n57 : GoodIn wsX3_compile (wsX2_exchanged) := ggX3_compile_X2_exchanged
theorem dX3_compile_0 : decode cX3_compile 0 = .ok (.aload_n 0, 1) := by decide +kernel
theorem dX3_compile_1 : decode cX3_compile 1 = .ok (.getfield 10, 3) := by decide +kernel
theorem dX3_compile_4 : decode cX3_compile 4 = .ok (.invokevirtual 46, 3) := by decide +kernel
theorem dX3_compile_7 : decode cX3_compile 7 = .ok (.ifCond .ne 13, 3) := by decide +kernel
theorem dX3_compile_10 : decode cX3_compile 10 = .ok (.new 50, 3) := by decide +kernel
theorem dX3_compile_13 : decode cX3_compile 13 = .ok (.dup, 1) := by decide +kernel
theorem dX3_compile_14 : decode cX3_compile 14 = .ok (.ldc 52, 2) := by decide +kernel
theorem dX3_compile_16 : decode cX3_compile 16 = .ok (.invokespecial 54, 3) := by decide +kernel
theorem dX3_compile_19 : decode cX3_compile 19 = .ok (.athrow, 1) := by decide +kernel
theorem dX3_compile_20 : decode cX3_compile 20 = .ok (.aload_n 0, 1) := by decide +kernel
theorem dX3_compile_21 : decode cX3_compile 21 = .ok (.aload_n 0, 1) := by decide +kernel
theorem dX3_compile_22 : decode cX3_compile 22 = .ok (.getfield 10, 3) := by decide +kernel
theorem dX3_compile_25 : decode cX3_compile 25 = .ok (.aload_n 0, 1) := by decide +kernel
theorem dX3_compile_26 : decode cX3_compile 26 = .ok (.getfield 26, 3) := by decide +kernel
theorem dX3_compile_29 : decode cX3_compile 29 = .ok (.invokevirtual 57, 3) := by decide +kernel
theorem dX3_compile_32 : decode cX3_compile 32 = .ok (.putfield 26, 3) := by decide +kernel
theorem dX3_compile_35 : decode cX3_compile 35 = .ok (.aload_n 0, 1) := by decide +kernel
theorem dX3_compile_36 : decode cX3_compile 36 = .ok (.iconst 1, 1) := by decide +kernel
theorem dX3_compile_37 : decode cX3_compile 37 = .ok (.putfield 30, 3) := by decide +kernel
theorem dX3_compile_40 : decode cX3_compile 40 = .ok (.aload_n 0, 1) := by decide +kernel
theorem dX3_compile_41 : decode cX3_compile 41 = .ok (.getfield 26, 3) := by decide +kernel
theorem dX3_compile_44 : decode cX3_compile 44 = .ok (.getfield 61, 3) := by decide +kernel
theorem dX3_compile_47 : decode cX3_compile 47 = .ok (.ireturn, 1) := by decide +kernel
theorem dX3_fault_0 : decode cX3_fault 0 = .ok (.aload_n 0, 1) := by decide +kernel
theorem dX3_fault_1 : decode cX3_fault 1 = .ok (.getfield 10, 3) := by decide +kernel
theorem dX3_fault_4 : decode cX3_fault 4 = .ok (.getfield 64, 3) := by decide +kernel
theorem dX3_fault_7 : decode cX3_fault 7 = .ok (.ireturn, 1) := by decide +kernel
theorem dX3_work_0 : decode cX3_work 0 = .ok (.aload_n 0, 1) := by decide +kernel
theorem dX3_work_1 : decode cX3_work 1 = .ok (.getfield 26, 3) := by decide +kernel
theorem dX3_work_4 : decode cX3_work 4 = .ok (.getfield 67, 3) := by decide +kernel
theorem dX3_work_7 : decode cX3_work 7 = .ok (.ireturn, 1) := by decide +kernel
set_option maxRecDepth 20000 in
theorem ggX3_run_X1_carriesOut : GoodIn wsX3_run wsX1_carriesOut := goodIn_r _ [11, 12, 13, 14, 15, 16, 17, 18, 19, 20, 21, 22, 23, 24, 25, 26, 27, 28, 29, 30, 9, 31, 32, 33, 34, 35, 36, 37, 38, 39, 40, 41, 42, 43, 44, 45, 46, 47, 48, 49, 50, 51, 52, 53, 54, 55, 56, 57, 58, 59, 60, 61, 62, 63, 64, 65, 66, 67, 72, 73, 74, 75, 76, 77, 78, 79, 80, 81, 82, 83, 84, 85] (by decide +kernel) (by decide +kernel)
set_option maxRecDepth 20000 in
theorem gX3_run_X1_carriesOut_n75 : GoodIn wsX3_run (wsX1_carriesOut) := ggX3_run_X1_carriesOut
theorem dX3_run_0 : decode cX3_run 0 = .ok (.aload_n 0, 1) := by decide +kernel
theorem dX3_run_1 : decode cX3_run 1 = .ok (.getfield 30, 3) := by decide +kernel
theorem dX3_run_4 : decode cX3_run 4 = .ok (.ifCond .ne 13, 3) := by decide +kernel
theorem dX3_run_7 : decode cX3_run 7 = .ok (.new 70, 3) := by decide +kernel
theorem dX3_run_10 : decode cX3_run 10 = .ok (.dup, 1) := by decide +kernel
theorem dX3_run_11 : decode cX3_run 11 = .ok (.ldc 72, 2) := by decide +kernel
theorem dX3_run_13 : decode cX3_run 13 = .ok (.invokespecial 74, 3) := by decide +kernel
theorem dX3_run_16 : decode cX3_run 16 = .ok (.athrow, 1) := by decide +kernel
theorem dX3_run_17 : decode cX3_run 17 = .ok (.aload_n 0, 1) := by decide +kernel
theorem dX3_run_18 : decode cX3_run 18 = .ok (.getfield 19, 3) := by decide +kernel
theorem dX3_run_21 : decode cX3_run 21 = .ok (.aload_n 0, 1) := by decide +kernel
theorem dX3_run_22 : decode cX3_run 22 = .ok (.getfield 26, 3) := by decide +kernel
theorem dX3_run_25 : decode cX3_run 25 = .ok (.invokevirtual 75, 3) := by decide +kernel
theorem dX3_run_28 : decode cX3_run 28 = .ok (.ifCond .ne 13, 3) := by decide +kernel
theorem dX3_run_31 : decode cX3_run 31 = .ok (.new 79, 3) := by decide +kernel
theorem dX3_run_34 : decode cX3_run 34 = .ok (.dup, 1) := by decide +kernel
theorem dX3_run_35 : decode cX3_run 35 = .ok (.ldc 81, 2) := by decide +kernel
theorem dX3_run_37 : decode cX3_run 37 = .ok (.invokespecial 83, 3) := by decide +kernel
theorem dX3_run_40 : decode cX3_run 40 = .ok (.athrow, 1) := by decide +kernel
theorem dX3_run_41 : decode cX3_run 41 = .ok (.aload_n 0, 1) := by decide +kernel
theorem dX3_run_42 : decode cX3_run 42 = .ok (.getfield 19, 3) := by decide +kernel
theorem dX3_run_45 : decode cX3_run 45 = .ok (.getfield 84, 3) := by decide +kernel
theorem dX3_run_48 : decode cX3_run 48 = .ok (.ireturn, 1) := by decide +kernel
theorem dX3_value_0 : decode cX3_value 0 = .ok (.iload_n 1, 1) := by decide +kernel
theorem dX3_value_1 : decode cX3_value 1 = .ok (.ifCond .lt 9, 3) := by decide +kernel
theorem dX3_value_4 : decode cX3_value 4 = .ok (.iload_n 1, 1) := by decide +kernel
theorem dX3_value_5 : decode cX3_value 5 = .ok (.bipush 26, 2) := by decide +kernel
theorem dX3_value_7 : decode cX3_value 7 = .ok (.if_icmp .lt 13, 3) := by decide +kernel
theorem dX3_value_10 : decode cX3_value 10 = .ok (.new 79, 3) := by decide +kernel
theorem dX3_value_13 : decode cX3_value 13 = .ok (.dup, 1) := by decide +kernel
theorem dX3_value_14 : decode cX3_value 14 = .ok (.ldc 87, 2) := by decide +kernel
theorem dX3_value_16 : decode cX3_value 16 = .ok (.invokespecial 83, 3) := by decide +kernel
theorem dX3_value_19 : decode cX3_value 19 = .ok (.athrow, 1) := by decide +kernel
theorem dX3_value_20 : decode cX3_value 20 = .ok (.aload_n 0, 1) := by decide +kernel
theorem dX3_value_21 : decode cX3_value 21 = .ok (.getfield 19, 3) := by decide +kernel
theorem dX3_value_24 : decode cX3_value 24 = .ok (.getfield 89, 3) := by decide +kernel
theorem dX3_value_27 : decode cX3_value 27 = .ok (.iload_n 1, 1) := by decide +kernel
theorem dX3_value_28 : decode cX3_value 28 = .ok (.iaload, 1) := by decide +kernel
theorem dX3_value_29 : decode cX3_value 29 = .ok (.ireturn, 1) := by decide +kernel
set_option maxRecDepth 20000 in
theorem ggX3_poke_X3_isAddress : GoodIn wsX3_poke wsX3_isAddress := goodIn_r _ [7] (by decide +kernel) (by decide +kernel)
set_option maxRecDepth 20000 in
theorem gX3_poke_X3_isAddress : GoodIn wsX3_poke (va_wsS RX3 93 yX3_isAddress wsX3_isAddress) := goodIn_app (goodIn_of _ (by decide +kernel)) ggX3_poke_X3_isAddress
theorem dX3_poke_0 : decode cX3_poke 0 = .ok (.iload_n 1, 1) := by decide +kernel
theorem dX3_poke_1 : decode cX3_poke 1 = .ok (.invokestatic 93, 3) := by decide +kernel
theorem dX3_poke_4 : decode cX3_poke 4 = .ok (.ifCond .ne 13, 3) := by decide +kernel
theorem dX3_poke_7 : decode cX3_poke 7 = .ok (.new 79, 3) := by decide +kernel
theorem dX3_poke_10 : decode cX3_poke 10 = .ok (.dup, 1) := by decide +kernel
theorem dX3_poke_11 : decode cX3_poke 11 = .ok (.ldc 97, 2) := by decide +kernel
theorem dX3_poke_13 : decode cX3_poke 13 = .ok (.invokespecial 83, 3) := by decide +kernel
theorem dX3_poke_16 : decode cX3_poke 16 = .ok (.athrow, 1) := by decide +kernel
theorem dX3_poke_17 : decode cX3_poke 17 = .ok (.aload_n 0, 1) := by decide +kernel
theorem dX3_poke_18 : decode cX3_poke 18 = .ok (.getfield 19, 3) := by decide +kernel
theorem dX3_poke_21 : decode cX3_poke 21 = .ok (.getfield 99, 3) := by decide +kernel
theorem dX3_poke_24 : decode cX3_poke 24 = .ok (.iload_n 1, 1) := by decide +kernel
theorem dX3_poke_25 : decode cX3_poke 25 = .ok (.iload_n 2, 1) := by decide +kernel
theorem dX3_poke_26 : decode cX3_poke 26 = .ok (.iastore, 1) := by decide +kernel
theorem dX3_poke_27 : decode cX3_poke 27 = .ok (.return_, 1) := by decide +kernel
set_option maxRecDepth 20000 in
theorem ggX3_peek_X3_isAddress : GoodIn wsX3_peek wsX3_isAddress := goodIn_r _ [7] (by decide +kernel) (by decide +kernel)
set_option maxRecDepth 20000 in
theorem gX3_peek_X3_isAddress : GoodIn wsX3_peek (va_wsS RX3 93 yX3_isAddress wsX3_isAddress) := goodIn_app (goodIn_of _ (by decide +kernel)) ggX3_peek_X3_isAddress
theorem dX3_peek_0 : decode cX3_peek 0 = .ok (.iload_n 1, 1) := by decide +kernel
theorem dX3_peek_1 : decode cX3_peek 1 = .ok (.invokestatic 93, 3) := by decide +kernel
theorem dX3_peek_4 : decode cX3_peek 4 = .ok (.ifCond .ne 13, 3) := by decide +kernel
theorem dX3_peek_7 : decode cX3_peek 7 = .ok (.new 79, 3) := by decide +kernel
theorem dX3_peek_10 : decode cX3_peek 10 = .ok (.dup, 1) := by decide +kernel
theorem dX3_peek_11 : decode cX3_peek 11 = .ok (.ldc 97, 2) := by decide +kernel
theorem dX3_peek_13 : decode cX3_peek 13 = .ok (.invokespecial 83, 3) := by decide +kernel
theorem dX3_peek_16 : decode cX3_peek 16 = .ok (.athrow, 1) := by decide +kernel
theorem dX3_peek_17 : decode cX3_peek 17 = .ok (.aload_n 0, 1) := by decide +kernel
theorem dX3_peek_18 : decode cX3_peek 18 = .ok (.getfield 19, 3) := by decide +kernel
theorem dX3_peek_21 : decode cX3_peek 21 = .ok (.getfield 99, 3) := by decide +kernel
theorem dX3_peek_24 : decode cX3_peek 24 = .ok (.iload_n 1, 1) := by decide +kernel
theorem dX3_peek_25 : decode cX3_peek 25 = .ok (.iaload, 1) := by decide +kernel
theorem dX3_peek_26 : decode cX3_peek 26 = .ok (.ireturn, 1) := by decide +kernel
theorem dX3_fill_0 : decode cX3_fill 0 = .ok (.iload_n 1, 1) := by decide +kernel
theorem dX3_fill_1 : decode cX3_fill 1 = .ok (.ifCond .lt 10, 3) := by decide +kernel
theorem dX3_fill_4 : decode cX3_fill 4 = .ok (.iload_n 1, 1) := by decide +kernel
theorem dX3_fill_5 : decode cX3_fill 5 = .ok (.sipush 192, 3) := by decide +kernel
theorem dX3_fill_8 : decode cX3_fill 8 = .ok (.if_icmp .le 13, 3) := by decide +kernel
theorem dX3_fill_11 : decode cX3_fill 11 = .ok (.new 50, 3) := by decide +kernel
theorem dX3_fill_14 : decode cX3_fill 14 = .ok (.dup, 1) := by decide +kernel
theorem dX3_fill_15 : decode cX3_fill 15 = .ok (.ldc 102, 2) := by decide +kernel
theorem dX3_fill_17 : decode cX3_fill 17 = .ok (.invokespecial 54, 3) := by decide +kernel
theorem dX3_fill_20 : decode cX3_fill 20 = .ok (.athrow, 1) := by decide +kernel
theorem dX3_fill_21 : decode cX3_fill 21 = .ok (.iconst 0, 1) := by decide +kernel
theorem dX3_fill_22 : decode cX3_fill 22 = .ok (.istore 4, 2) := by decide +kernel
theorem dX3_fill_24 : decode cX3_fill 24 = .ok (.iload 4, 2) := by decide +kernel
theorem dX3_fill_26 : decode cX3_fill 26 = .ok (.iload_n 1, 1) := by decide +kernel
theorem dX3_fill_27 : decode cX3_fill 27 = .ok (.if_icmp .ge 25, 3) := by decide +kernel
theorem dX3_fill_30 : decode cX3_fill 30 = .ok (.aload_n 0, 1) := by decide +kernel
theorem dX3_fill_31 : decode cX3_fill 31 = .ok (.getfield 19, 3) := by decide +kernel
theorem dX3_fill_34 : decode cX3_fill 34 = .ok (.getfield 99, 3) := by decide +kernel
theorem dX3_fill_37 : decode cX3_fill 37 = .ok (.iload 4, 2) := by decide +kernel
theorem dX3_fill_39 : decode cX3_fill 39 = .ok (.iload_n 2, 1) := by decide +kernel
theorem dX3_fill_40 : decode cX3_fill 40 = .ok (.iload 4, 2) := by decide +kernel
theorem dX3_fill_42 : decode cX3_fill 42 = .ok (.iload_n 3, 1) := by decide +kernel
theorem dX3_fill_43 : decode cX3_fill 43 = .ok (.imul, 1) := by decide +kernel
theorem dX3_fill_44 : decode cX3_fill 44 = .ok (.iadd, 1) := by decide +kernel
theorem dX3_fill_45 : decode cX3_fill 45 = .ok (.iastore, 1) := by decide +kernel
theorem dX3_fill_46 : decode cX3_fill 46 = .ok (.iinc 4 1, 3) := by decide +kernel
theorem dX3_fill_49 : decode cX3_fill 49 = .ok (.goto (-25), 3) := by decide +kernel
theorem dX3_fill_52 : decode cX3_fill 52 = .ok (.return_, 1) := by decide +kernel
set_option maxRecDepth 20000 in
theorem ggX3_mixed_X3_ofOne : GoodIn wsX3_mixed wsX3_ofOne := goodIn_r _ [5] (by decide +kernel) (by decide +kernel)
set_option maxRecDepth 20000 in
theorem gX3_mixed_X3_ofOne : GoodIn wsX3_mixed (va_wsS RX3 104 yX3_ofOne wsX3_ofOne) := goodIn_app (goodIn_of _ (by decide +kernel)) ggX3_mixed_X3_ofOne
theorem dX3_mixed_0 : decode cX3_mixed 0 = .ok (.iconst 0, 1) := by decide +kernel
theorem dX3_mixed_1 : decode cX3_mixed 1 = .ok (.istore_n 1, 1) := by decide +kernel
theorem dX3_mixed_2 : decode cX3_mixed 2 = .ok (.iconst 0, 1) := by decide +kernel
theorem dX3_mixed_3 : decode cX3_mixed 3 = .ok (.istore_n 2, 1) := by decide +kernel
theorem dX3_mixed_4 : decode cX3_mixed 4 = .ok (.iload_n 2, 1) := by decide +kernel
theorem dX3_mixed_5 : decode cX3_mixed 5 = .ok (.sipush 192, 3) := by decide +kernel
theorem dX3_mixed_8 : decode cX3_mixed 8 = .ok (.if_icmp .ge 30, 3) := by decide +kernel
theorem dX3_mixed_11 : decode cX3_mixed 11 = .ok (.iload_n 1, 1) := by decide +kernel
theorem dX3_mixed_12 : decode cX3_mixed 12 = .ok (.bipush 60, 2) := by decide +kernel
theorem dX3_mixed_14 : decode cX3_mixed 14 = .ok (.aload_n 0, 1) := by decide +kernel
theorem dX3_mixed_15 : decode cX3_mixed 15 = .ok (.getfield 19, 3) := by decide +kernel
theorem dX3_mixed_18 : decode cX3_mixed 18 = .ok (.getfield 99, 3) := by decide +kernel
theorem dX3_mixed_21 : decode cX3_mixed 21 = .ok (.iload_n 2, 1) := by decide +kernel
theorem dX3_mixed_22 : decode cX3_mixed 22 = .ok (.iaload, 1) := by decide +kernel
theorem dX3_mixed_23 : decode cX3_mixed 23 = .ok (.iload_n 2, 1) := by decide +kernel
theorem dX3_mixed_24 : decode cX3_mixed 24 = .ok (.bipush 32, 2) := by decide +kernel
theorem dX3_mixed_26 : decode cX3_mixed 26 = .ok (.irem, 1) := by decide +kernel
theorem dX3_mixed_27 : decode cX3_mixed 27 = .ok (.invokestatic 104, 3) := by decide +kernel
theorem dX3_mixed_30 : decode cX3_mixed 30 = .ok (.ixor, 1) := by decide +kernel
theorem dX3_mixed_31 : decode cX3_mixed 31 = .ok (.istore_n 1, 1) := by decide +kernel
theorem dX3_mixed_32 : decode cX3_mixed 32 = .ok (.iinc 2 1, 3) := by decide +kernel
theorem dX3_mixed_35 : decode cX3_mixed 35 = .ok (.goto (-31), 3) := by decide +kernel
theorem dX3_mixed_38 : decode cX3_mixed 38 = .ok (.iload_n 1, 1) := by decide +kernel
theorem dX3_mixed_39 : decode cX3_mixed 39 = .ok (.ireturn, 1) := by decide +kernel
theorem dX3_byteOf_0 : decode cX3_byteOf 0 = .ok (.lload_n 0, 1) := by decide +kernel
theorem dX3_byteOf_1 : decode cX3_byteOf 1 = .ok (.bipush 8, 2) := by decide +kernel
theorem dX3_byteOf_3 : decode cX3_byteOf 3 = .ok (.iload_n 2, 1) := by decide +kernel
theorem dX3_byteOf_4 : decode cX3_byteOf 4 = .ok (.imul, 1) := by decide +kernel
theorem dX3_byteOf_5 : decode cX3_byteOf 5 = .ok (.lushr, 1) := by decide +kernel
theorem dX3_byteOf_6 : decode cX3_byteOf 6 = .ok (.l2i, 1) := by decide +kernel
theorem dX3_byteOf_7 : decode cX3_byteOf 7 = .ok (.sipush 255, 3) := by decide +kernel
theorem dX3_byteOf_10 : decode cX3_byteOf 10 = .ok (.iand, 1) := by decide +kernel
theorem dX3_byteOf_11 : decode cX3_byteOf 11 = .ok (.ireturn, 1) := by decide +kernel
theorem dX3_isAddress_0 : decode cX3_isAddress 0 = .ok (.iload_n 0, 1) := by decide +kernel
theorem dX3_isAddress_1 : decode cX3_isAddress 1 = .ok (.ifCond .lt 14, 3) := by decide +kernel
theorem dX3_isAddress_4 : decode cX3_isAddress 4 = .ok (.iload_n 0, 1) := by decide +kernel
theorem dX3_isAddress_5 : decode cX3_isAddress 5 = .ok (.sipush 192, 3) := by decide +kernel
theorem dX3_isAddress_8 : decode cX3_isAddress 8 = .ok (.if_icmp .ge 7, 3) := by decide +kernel
theorem dX3_isAddress_11 : decode cX3_isAddress 11 = .ok (.iconst 1, 1) := by decide +kernel
theorem dX3_isAddress_12 : decode cX3_isAddress 12 = .ok (.goto 4, 3) := by decide +kernel
theorem dX3_isAddress_15 : decode cX3_isAddress 15 = .ok (.iconst 0, 1) := by decide +kernel
theorem dX3_isAddress_16 : decode cX3_isAddress 16 = .ok (.ireturn, 1) := by decide +kernel
theorem dX3_ofOne_0 : decode cX3_ofOne 0 = .ok (.iload_n 0, 1) := by decide +kernel
theorem dX3_ofOne_1 : decode cX3_ofOne 1 = .ok (.lookupswitch 42 #[(60, 27), (62, 38)], 27) := by decide +kernel
theorem dX3_ofOne_28 : decode cX3_ofOne 28 = .ok (.iload_n 1, 1) := by decide +kernel
theorem dX3_ofOne_29 : decode cX3_ofOne 29 = .ok (.iload_n 2, 1) := by decide +kernel
theorem dX3_ofOne_30 : decode cX3_ofOne 30 = .ok (.ishl, 1) := by decide +kernel
theorem dX3_ofOne_31 : decode cX3_ofOne 31 = .ok (.iload_n 1, 1) := by decide +kernel
theorem dX3_ofOne_32 : decode cX3_ofOne 32 = .ok (.bipush 32, 2) := by decide +kernel
theorem dX3_ofOne_34 : decode cX3_ofOne 34 = .ok (.iload_n 2, 1) := by decide +kernel
theorem dX3_ofOne_35 : decode cX3_ofOne 35 = .ok (.isub, 1) := by decide +kernel
theorem dX3_ofOne_36 : decode cX3_ofOne 36 = .ok (.iushr, 1) := by decide +kernel
theorem dX3_ofOne_37 : decode cX3_ofOne 37 = .ok (.ior, 1) := by decide +kernel
theorem dX3_ofOne_38 : decode cX3_ofOne 38 = .ok (.ireturn, 1) := by decide +kernel
theorem dX3_ofOne_39 : decode cX3_ofOne 39 = .ok (.iload_n 1, 1) := by decide +kernel
theorem dX3_ofOne_40 : decode cX3_ofOne 40 = .ok (.iload_n 2, 1) := by decide +kernel
theorem dX3_ofOne_41 : decode cX3_ofOne 41 = .ok (.iushr, 1) := by decide +kernel
theorem dX3_ofOne_42 : decode cX3_ofOne 42 = .ok (.ireturn, 1) := by decide +kernel
theorem dX3_ofOne_43 : decode cX3_ofOne 43 = .ok (.iload_n 1, 1) := by decide +kernel
theorem dX3_ofOne_44 : decode cX3_ofOne 44 = .ok (.iconst (-1), 1) := by decide +kernel
theorem dX3_ofOne_45 : decode cX3_ofOne 45 = .ok (.ixor, 1) := by decide +kernel
theorem dX3_ofOne_46 : decode cX3_ofOne 46 = .ok (.ireturn, 1) := by decide +kernel
theorem dX3_ofTwo_0 : decode cX3_ofTwo 0 = .ok (.iload_n 0, 1) := by decide +kernel
theorem dX3_ofTwo_1 : decode cX3_ofTwo 1 = .ok (.lookupswitch 71 #[(38, 63), (42, 59), (43, 51), (45, 55), (124, 67)], 51) := by decide +kernel
theorem dX3_ofTwo_52 : decode cX3_ofTwo 52 = .ok (.iload_n 1, 1) := by decide +kernel
theorem dX3_ofTwo_53 : decode cX3_ofTwo 53 = .ok (.iload_n 2, 1) := by decide +kernel
theorem dX3_ofTwo_54 : decode cX3_ofTwo 54 = .ok (.iadd, 1) := by decide +kernel
theorem dX3_ofTwo_55 : decode cX3_ofTwo 55 = .ok (.ireturn, 1) := by decide +kernel
theorem dX3_ofTwo_56 : decode cX3_ofTwo 56 = .ok (.iload_n 1, 1) := by decide +kernel
theorem dX3_ofTwo_57 : decode cX3_ofTwo 57 = .ok (.iload_n 2, 1) := by decide +kernel
theorem dX3_ofTwo_58 : decode cX3_ofTwo 58 = .ok (.isub, 1) := by decide +kernel
theorem dX3_ofTwo_59 : decode cX3_ofTwo 59 = .ok (.ireturn, 1) := by decide +kernel
theorem dX3_ofTwo_60 : decode cX3_ofTwo 60 = .ok (.iload_n 1, 1) := by decide +kernel
theorem dX3_ofTwo_61 : decode cX3_ofTwo 61 = .ok (.iload_n 2, 1) := by decide +kernel
theorem dX3_ofTwo_62 : decode cX3_ofTwo 62 = .ok (.imul, 1) := by decide +kernel
theorem dX3_ofTwo_63 : decode cX3_ofTwo 63 = .ok (.ireturn, 1) := by decide +kernel
theorem dX3_ofTwo_64 : decode cX3_ofTwo 64 = .ok (.iload_n 1, 1) := by decide +kernel
theorem dX3_ofTwo_65 : decode cX3_ofTwo 65 = .ok (.iload_n 2, 1) := by decide +kernel
theorem dX3_ofTwo_66 : decode cX3_ofTwo 66 = .ok (.iand, 1) := by decide +kernel
theorem dX3_ofTwo_67 : decode cX3_ofTwo 67 = .ok (.ireturn, 1) := by decide +kernel
theorem dX3_ofTwo_68 : decode cX3_ofTwo 68 = .ok (.iload_n 1, 1) := by decide +kernel
theorem dX3_ofTwo_69 : decode cX3_ofTwo 69 = .ok (.iload_n 2, 1) := by decide +kernel
theorem dX3_ofTwo_70 : decode cX3_ofTwo 70 = .ok (.ior, 1) := by decide +kernel
theorem dX3_ofTwo_71 : decode cX3_ofTwo 71 = .ok (.ireturn, 1) := by decide +kernel
theorem dX3_ofTwo_72 : decode cX3_ofTwo 72 = .ok (.iload_n 1, 1) := by decide +kernel
theorem dX3_ofTwo_73 : decode cX3_ofTwo 73 = .ok (.iload_n 2, 1) := by decide +kernel
theorem dX3_ofTwo_74 : decode cX3_ofTwo 74 = .ok (.ixor, 1) := by decide +kernel
theorem dX3_ofTwo_75 : decode cX3_ofTwo 75 = .ok (.ireturn, 1) := by decide +kernel
theorem dX4_init_0 : decode cX4_init 0 = .ok (.aload_n 0, 1) := by decide +kernel
theorem dX4_init_1 : decode cX4_init 1 = .ok (.invokespecial 1, 3) := by decide +kernel
theorem dX4_init_4 : decode cX4_init 4 = .ok (.aload_n 0, 1) := by decide +kernel
theorem dX4_init_5 : decode cX4_init 5 = .ok (.sipush 480, 3) := by decide +kernel
theorem dX4_init_8 : decode cX4_init 8 = .ok (.newarray .int, 2) := by decide +kernel
theorem dX4_init_10 : decode cX4_init 10 = .ok (.putfield 7, 3) := by decide +kernel
theorem dX4_init_13 : decode cX4_init 13 = .ok (.aload_n 0, 1) := by decide +kernel
theorem dX4_init_14 : decode cX4_init 14 = .ok (.sipush 192, 3) := by decide +kernel
theorem dX4_init_17 : decode cX4_init 17 = .ok (.newarray .int, 2) := by decide +kernel
theorem dX4_init_19 : decode cX4_init 19 = .ok (.putfield 13, 3) := by decide +kernel
theorem dX4_init_22 : decode cX4_init 22 = .ok (.aload_n 0, 1) := by decide +kernel
theorem dX4_init_23 : decode cX4_init 23 = .ok (.sipush 192, 3) := by decide +kernel
theorem dX4_init_26 : decode cX4_init 26 = .ok (.newarray .int, 2) := by decide +kernel
theorem dX4_init_28 : decode cX4_init 28 = .ok (.putfield 16, 3) := by decide +kernel
theorem dX4_init_31 : decode cX4_init 31 = .ok (.aload_n 0, 1) := by decide +kernel
theorem dX4_init_32 : decode cX4_init 32 = .ok (.bipush 26, 2) := by decide +kernel
theorem dX4_init_34 : decode cX4_init 34 = .ok (.newarray .int, 2) := by decide +kernel
theorem dX4_init_36 : decode cX4_init 36 = .ok (.putfield 19, 3) := by decide +kernel
theorem dX4_init_39 : decode cX4_init 39 = .ok (.aload_n 0, 1) := by decide +kernel
theorem dX4_init_40 : decode cX4_init 40 = .ok (.bipush 26, 2) := by decide +kernel
theorem dX4_init_42 : decode cX4_init 42 = .ok (.newarray .int, 2) := by decide +kernel
theorem dX4_init_44 : decode cX4_init 44 = .ok (.putfield 22, 3) := by decide +kernel
theorem dX4_init_47 : decode cX4_init 47 = .ok (.aload_n 0, 1) := by decide +kernel
theorem dX4_init_48 : decode cX4_init 48 = .ok (.sipush 1000, 3) := by decide +kernel
theorem dX4_init_51 : decode cX4_init 51 = .ok (.newarray .int, 2) := by decide +kernel
theorem dX4_init_53 : decode cX4_init 53 = .ok (.putfield 25, 3) := by decide +kernel
theorem dX4_init_56 : decode cX4_init 56 = .ok (.aload_n 0, 1) := by decide +kernel
theorem dX4_init_57 : decode cX4_init 57 = .ok (.sipush 1000, 3) := by decide +kernel
theorem dX4_init_60 : decode cX4_init 60 = .ok (.newarray .int, 2) := by decide +kernel
theorem dX4_init_62 : decode cX4_init 62 = .ok (.putfield 28, 3) := by decide +kernel
theorem dX4_init_65 : decode cX4_init 65 = .ok (.aload_n 0, 1) := by decide +kernel
theorem dX4_init_66 : decode cX4_init 66 = .ok (.sipush 1000, 3) := by decide +kernel
theorem dX4_init_69 : decode cX4_init 69 = .ok (.newarray .int, 2) := by decide +kernel
theorem dX4_init_71 : decode cX4_init 71 = .ok (.putfield 31, 3) := by decide +kernel
theorem dX4_init_74 : decode cX4_init 74 = .ok (.aload_n 0, 1) := by decide +kernel
theorem dX4_init_75 : decode cX4_init 75 = .ok (.sipush 1000, 3) := by decide +kernel
theorem dX4_init_78 : decode cX4_init 78 = .ok (.newarray .int, 2) := by decide +kernel
theorem dX4_init_80 : decode cX4_init 80 = .ok (.putfield 34, 3) := by decide +kernel
theorem dX4_init_83 : decode cX4_init 83 = .ok (.aload_n 0, 1) := by decide +kernel
theorem dX4_init_84 : decode cX4_init 84 = .ok (.sipush 520, 3) := by decide +kernel
theorem dX4_init_87 : decode cX4_init 87 = .ok (.newarray .int, 2) := by decide +kernel
theorem dX4_init_89 : decode cX4_init 89 = .ok (.putfield 37, 3) := by decide +kernel
theorem dX4_init_92 : decode cX4_init 92 = .ok (.aload_n 0, 1) := by decide +kernel
theorem dX4_init_93 : decode cX4_init 93 = .ok (.sipush 520, 3) := by decide +kernel
theorem dX4_init_96 : decode cX4_init 96 = .ok (.newarray .int, 2) := by decide +kernel
theorem dX4_init_98 : decode cX4_init 98 = .ok (.putfield 40, 3) := by decide +kernel
theorem dX4_init_101 : decode cX4_init 101 = .ok (.aload_n 0, 1) := by decide +kernel
theorem dX4_init_102 : decode cX4_init 102 = .ok (.sipush 520, 3) := by decide +kernel
theorem dX4_init_105 : decode cX4_init 105 = .ok (.newarray .boolean, 2) := by decide +kernel
theorem dX4_init_107 : decode cX4_init 107 = .ok (.putfield 43, 3) := by decide +kernel
theorem dX4_init_110 : decode cX4_init 110 = .ok (.aload_n 0, 1) := by decide +kernel
theorem dX4_init_111 : decode cX4_init 111 = .ok (.bipush 8, 2) := by decide +kernel
theorem dX4_init_113 : decode cX4_init 113 = .ok (.newarray .int, 2) := by decide +kernel
theorem dX4_init_115 : decode cX4_init 115 = .ok (.putfield 47, 3) := by decide +kernel
theorem dX4_init_118 : decode cX4_init 118 = .ok (.aload_n 0, 1) := by decide +kernel
theorem dX4_init_119 : decode cX4_init 119 = .ok (.bipush 8, 2) := by decide +kernel
theorem dX4_init_121 : decode cX4_init 121 = .ok (.newarray .int, 2) := by decide +kernel
theorem dX4_init_123 : decode cX4_init 123 = .ok (.putfield 50, 3) := by decide +kernel
theorem dX4_init_126 : decode cX4_init 126 = .ok (.aload_n 0, 1) := by decide +kernel
theorem dX4_init_127 : decode cX4_init 127 = .ok (.bipush 9, 2) := by decide +kernel
theorem dX4_init_129 : decode cX4_init 129 = .ok (.newarray .int, 2) := by decide +kernel
theorem dX4_init_131 : decode cX4_init 131 = .ok (.putfield 53, 3) := by decide +kernel
theorem dX4_init_134 : decode cX4_init 134 = .ok (.aload_n 0, 1) := by decide +kernel
theorem dX4_init_135 : decode cX4_init 135 = .ok (.sipush 520, 3) := by decide +kernel
theorem dX4_init_138 : decode cX4_init 138 = .ok (.newarray .int, 2) := by decide +kernel
theorem dX4_init_140 : decode cX4_init 140 = .ok (.putfield 56, 3) := by decide +kernel
theorem dX4_init_143 : decode cX4_init 143 = .ok (.return_, 1) := by decide +kernel
theorem dX4_thrown_0 : decode cX4_thrown 0 = .ok (.aload_n 0, 1) := by decide +kernel
theorem dX4_thrown_1 : decode cX4_thrown 1 = .ok (.getfield 59, 3) := by decide +kernel
theorem dX4_thrown_4 : decode cX4_thrown 4 = .ok (.ireturn, 1) := by decide +kernel
theorem dX4_write_0 : decode cX4_write 0 = .ok (.aload_n 0, 1) := by decide +kernel
theorem dX4_write_1 : decode cX4_write 1 = .ok (.iconst 0, 1) := by decide +kernel
theorem dX4_write_2 : decode cX4_write 2 = .ok (.putfield 59, 3) := by decide +kernel
theorem dX4_write_5 : decode cX4_write 5 = .ok (.iconst 0, 1) := by decide +kernel
theorem dX4_write_6 : decode cX4_write 6 = .ok (.istore_n 3, 1) := by decide +kernel
theorem dX4_write_7 : decode cX4_write 7 = .ok (.iconst 1, 1) := by decide +kernel
theorem dX4_write_8 : decode cX4_write 8 = .ok (.istore 4, 2) := by decide +kernel
theorem dX4_write_10 : decode cX4_write 10 = .ok (.iconst 0, 1) := by decide +kernel
theorem dX4_write_11 : decode cX4_write 11 = .ok (.istore 5, 2) := by decide +kernel
theorem dX4_write_13 : decode cX4_write 13 = .ok (.iload 5, 2) := by decide +kernel
theorem dX4_write_15 : decode cX4_write 15 = .ok (.bipush 64, 2) := by decide +kernel
theorem dX4_write_17 : decode cX4_write 17 = .ok (.if_icmp .ge 68, 3) := by decide +kernel
theorem dX4_write_20 : decode cX4_write 20 = .ok (.lload_n 1, 1) := by decide +kernel
theorem dX4_write_21 : decode cX4_write 21 = .ok (.iload 5, 2) := by decide +kernel
theorem dX4_write_23 : decode cX4_write 23 = .ok (.lushr, 1) := by decide +kernel
theorem dX4_write_24 : decode cX4_write 24 = .ok (.ldc2_w 63, 3) := by decide +kernel
theorem dX4_write_27 : decode cX4_write 27 = .ok (.land, 1) := by decide +kernel
theorem dX4_write_28 : decode cX4_write 28 = .ok (.l2i, 1) := by decide +kernel
theorem dX4_write_29 : decode cX4_write 29 = .ok (.istore 6, 2) := by decide +kernel
theorem dX4_write_31 : decode cX4_write 31 = .ok (.iload 4, 2) := by decide +kernel
theorem dX4_write_33 : decode cX4_write 33 = .ok (.ifCond .eq 26, 3) := by decide +kernel
theorem dX4_write_36 : decode cX4_write 36 = .ok (.iload 6, 2) := by decide +kernel
theorem dX4_write_38 : decode cX4_write 38 = .ok (.ifCond .eq 17, 3) := by decide +kernel
theorem dX4_write_41 : decode cX4_write 41 = .ok (.iload 6, 2) := by decide +kernel
theorem dX4_write_43 : decode cX4_write 43 = .ok (.bipush 32, 2) := by decide +kernel
theorem dX4_write_45 : decode cX4_write 45 = .ok (.if_icmp .le 14, 3) := by decide +kernel
theorem dX4_write_48 : decode cX4_write 48 = .ok (.iload 6, 2) := by decide +kernel
theorem dX4_write_50 : decode cX4_write 50 = .ok (.bipush 127, 2) := by decide +kernel
theorem dX4_write_52 : decode cX4_write 52 = .ok (.if_icmp .ge 7, 3) := by decide +kernel
theorem dX4_write_55 : decode cX4_write 55 = .ok (.iconst 1, 1) := by decide +kernel
theorem dX4_write_56 : decode cX4_write 56 = .ok (.goto 4, 3) := by decide +kernel
theorem dX4_write_59 : decode cX4_write 59 = .ok (.iconst 0, 1) := by decide +kernel
theorem dX4_write_60 : decode cX4_write 60 = .ok (.istore 4, 2) := by decide +kernel
theorem dX4_write_62 : decode cX4_write 62 = .ok (.iload 6, 2) := by decide +kernel
theorem dX4_write_64 : decode cX4_write 64 = .ok (.ifCond .eq 9, 3) := by decide +kernel
theorem dX4_write_67 : decode cX4_write 67 = .ok (.iload_n 3, 1) := by decide +kernel
theorem dX4_write_68 : decode cX4_write 68 = .ok (.iconst 1, 1) := by decide +kernel
theorem dX4_write_69 : decode cX4_write 69 = .ok (.iadd, 1) := by decide +kernel
theorem dX4_write_70 : decode cX4_write 70 = .ok (.goto 4, 3) := by decide +kernel
theorem dX4_write_73 : decode cX4_write 73 = .ok (.iload_n 3, 1) := by decide +kernel
theorem dX4_write_74 : decode cX4_write 74 = .ok (.istore_n 3, 1) := by decide +kernel
theorem dX4_write_75 : decode cX4_write 75 = .ok (.iload 5, 2) := by decide +kernel
theorem dX4_write_77 : decode cX4_write 77 = .ok (.bipush 8, 2) := by decide +kernel
theorem dX4_write_79 : decode cX4_write 79 = .ok (.iadd, 1) := by decide +kernel
theorem dX4_write_80 : decode cX4_write 80 = .ok (.istore 5, 2) := by decide +kernel
theorem dX4_write_82 : decode cX4_write 82 = .ok (.goto (-69), 3) := by decide +kernel
theorem dX4_write_85 : decode cX4_write 85 = .ok (.iload 4, 2) := by decide +kernel
theorem dX4_write_87 : decode cX4_write 87 = .ok (.ifCond .eq 15, 3) := by decide +kernel
theorem dX4_write_90 : decode cX4_write 90 = .ok (.aload_n 0, 1) := by decide +kernel
theorem dX4_write_91 : decode cX4_write 91 = .ok (.getfield 65, 3) := by decide +kernel
theorem dX4_write_94 : decode cX4_write 94 = .ok (.iload_n 3, 1) := by decide +kernel
theorem dX4_write_95 : decode cX4_write 95 = .ok (.iadd, 1) := by decide +kernel
theorem dX4_write_96 : decode cX4_write 96 = .ok (.sipush 480, 3) := by decide +kernel
theorem dX4_write_99 : decode cX4_write 99 = .ok (.if_icmp .le 5, 3) := by decide +kernel
theorem dX4_write_102 : decode cX4_write 102 = .ok (.iconst 0, 1) := by decide +kernel
theorem dX4_write_103 : decode cX4_write 103 = .ok (.ireturn, 1) := by decide +kernel
theorem dX4_write_104 : decode cX4_write 104 = .ok (.iconst 0, 1) := by decide +kernel
theorem dX4_write_105 : decode cX4_write 105 = .ok (.istore 5, 2) := by decide +kernel
theorem dX4_write_107 : decode cX4_write 107 = .ok (.iload 5, 2) := by decide +kernel
theorem dX4_write_109 : decode cX4_write 109 = .ok (.bipush 64, 2) := by decide +kernel
theorem dX4_write_111 : decode cX4_write 111 = .ok (.if_icmp .ge 50, 3) := by decide +kernel
theorem dX4_write_114 : decode cX4_write 114 = .ok (.lload_n 1, 1) := by decide +kernel
theorem dX4_write_115 : decode cX4_write 115 = .ok (.iload 5, 2) := by decide +kernel
theorem dX4_write_117 : decode cX4_write 117 = .ok (.lushr, 1) := by decide +kernel
theorem dX4_write_118 : decode cX4_write 118 = .ok (.ldc2_w 63, 3) := by decide +kernel
theorem dX4_write_121 : decode cX4_write 121 = .ok (.land, 1) := by decide +kernel
theorem dX4_write_122 : decode cX4_write 122 = .ok (.l2i, 1) := by decide +kernel
theorem dX4_write_123 : decode cX4_write 123 = .ok (.istore 6, 2) := by decide +kernel
theorem dX4_write_125 : decode cX4_write 125 = .ok (.iload 6, 2) := by decide +kernel
theorem dX4_write_127 : decode cX4_write 127 = .ok (.ifCond .eq 24, 3) := by decide +kernel
theorem dX4_write_130 : decode cX4_write 130 = .ok (.aload_n 0, 1) := by decide +kernel
theorem dX4_write_131 : decode cX4_write 131 = .ok (.getfield 7, 3) := by decide +kernel
theorem dX4_write_134 : decode cX4_write 134 = .ok (.aload_n 0, 1) := by decide +kernel
theorem dX4_write_135 : decode cX4_write 135 = .ok (.getfield 65, 3) := by decide +kernel
theorem dX4_write_138 : decode cX4_write 138 = .ok (.iload 6, 2) := by decide +kernel
theorem dX4_write_140 : decode cX4_write 140 = .ok (.iastore, 1) := by decide +kernel
theorem dX4_write_141 : decode cX4_write 141 = .ok (.aload_n 0, 1) := by decide +kernel
theorem dX4_write_142 : decode cX4_write 142 = .ok (.dup, 1) := by decide +kernel
theorem dX4_write_143 : decode cX4_write 143 = .ok (.getfield 65, 3) := by decide +kernel
theorem dX4_write_146 : decode cX4_write 146 = .ok (.iconst 1, 1) := by decide +kernel
theorem dX4_write_147 : decode cX4_write 147 = .ok (.iadd, 1) := by decide +kernel
theorem dX4_write_148 : decode cX4_write 148 = .ok (.putfield 65, 3) := by decide +kernel
theorem dX4_write_151 : decode cX4_write 151 = .ok (.iload 5, 2) := by decide +kernel
theorem dX4_write_153 : decode cX4_write 153 = .ok (.bipush 8, 2) := by decide +kernel
theorem dX4_write_155 : decode cX4_write 155 = .ok (.iadd, 1) := by decide +kernel
theorem dX4_write_156 : decode cX4_write 156 = .ok (.istore 5, 2) := by decide +kernel
theorem dX4_write_158 : decode cX4_write 158 = .ok (.goto (-51), 3) := by decide +kernel
theorem dX4_write_161 : decode cX4_write 161 = .ok (.iconst 1, 1) := by decide +kernel
theorem dX4_write_162 : decode cX4_write 162 = .ok (.ireturn, 1) := by decide +kernel
theorem dX4_wipe_0 : decode cX4_wipe 0 = .ok (.aload_n 0, 1) := by decide +kernel
theorem dX4_wipe_1 : decode cX4_wipe 1 = .ok (.iconst 0, 1) := by decide +kernel
theorem dX4_wipe_2 : decode cX4_wipe 2 = .ok (.putfield 59, 3) := by decide +kernel
theorem dX4_wipe_5 : decode cX4_wipe 5 = .ok (.aload_n 0, 1) := by decide +kernel
theorem dX4_wipe_6 : decode cX4_wipe 6 = .ok (.iconst 0, 1) := by decide +kernel
theorem dX4_wipe_7 : decode cX4_wipe 7 = .ok (.putfield 65, 3) := by decide +kernel
theorem dX4_wipe_10 : decode cX4_wipe 10 = .ok (.return_, 1) := by decide +kernel
theorem dX4_here_0 : decode cX4_here 0 = .ok (.aload_n 0, 1) := by decide +kernel
theorem dX4_here_1 : decode cX4_here 1 = .ok (.getfield 68, 3) := by decide +kernel
theorem dX4_here_4 : decode cX4_here 4 = .ok (.aload_n 0, 1) := by decide +kernel
theorem dX4_here_5 : decode cX4_here 5 = .ok (.getfield 65, 3) := by decide +kernel
theorem dX4_here_8 : decode cX4_here 8 = .ok (.if_icmp .ge 15, 3) := by decide +kernel
theorem dX4_here_11 : decode cX4_here 11 = .ok (.aload_n 0, 1) := by decide +kernel
theorem dX4_here_12 : decode cX4_here 12 = .ok (.getfield 7, 3) := by decide +kernel
theorem dX4_here_15 : decode cX4_here 15 = .ok (.aload_n 0, 1) := by decide +kernel
theorem dX4_here_16 : decode cX4_here 16 = .ok (.getfield 68, 3) := by decide +kernel
theorem dX4_here_19 : decode cX4_here 19 = .ok (.iaload, 1) := by decide +kernel
theorem dX4_here_20 : decode cX4_here 20 = .ok (.goto 4, 3) := by decide +kernel
theorem dX4_here_23 : decode cX4_here 23 = .ok (.iconst (-1), 1) := by decide +kernel
theorem dX4_here_24 : decode cX4_here 24 = .ok (.ireturn, 1) := by decide +kernel
theorem dX4_isLetter_0 : decode cX4_isLetter 0 = .ok (.iload_n 0, 1) := by decide +kernel
theorem dX4_isLetter_1 : decode cX4_isLetter 1 = .ok (.bipush 97, 2) := by decide +kernel
theorem dX4_isLetter_3 : decode cX4_isLetter 3 = .ok (.if_icmp .lt 13, 3) := by decide +kernel
theorem dX4_isLetter_6 : decode cX4_isLetter 6 = .ok (.iload_n 0, 1) := by decide +kernel
theorem dX4_isLetter_7 : decode cX4_isLetter 7 = .ok (.bipush 122, 2) := by decide +kernel
theorem dX4_isLetter_9 : decode cX4_isLetter 9 = .ok (.if_icmp .gt 7, 3) := by decide +kernel
theorem dX4_isLetter_12 : decode cX4_isLetter 12 = .ok (.iconst 1, 1) := by decide +kernel
theorem dX4_isLetter_13 : decode cX4_isLetter 13 = .ok (.goto 4, 3) := by decide +kernel
theorem dX4_isLetter_16 : decode cX4_isLetter 16 = .ok (.iconst 0, 1) := by decide +kernel
theorem dX4_isLetter_17 : decode cX4_isLetter 17 = .ok (.ireturn, 1) := by decide +kernel
theorem dX4_isDigit_0 : decode cX4_isDigit 0 = .ok (.iload_n 0, 1) := by decide +kernel
theorem dX4_isDigit_1 : decode cX4_isDigit 1 = .ok (.bipush 48, 2) := by decide +kernel
theorem dX4_isDigit_3 : decode cX4_isDigit 3 = .ok (.if_icmp .lt 13, 3) := by decide +kernel
theorem dX4_isDigit_6 : decode cX4_isDigit 6 = .ok (.iload_n 0, 1) := by decide +kernel
theorem dX4_isDigit_7 : decode cX4_isDigit 7 = .ok (.bipush 57, 2) := by decide +kernel
theorem dX4_isDigit_9 : decode cX4_isDigit 9 = .ok (.if_icmp .gt 7, 3) := by decide +kernel
theorem dX4_isDigit_12 : decode cX4_isDigit 12 = .ok (.iconst 1, 1) := by decide +kernel
theorem dX4_isDigit_13 : decode cX4_isDigit 13 = .ok (.goto 4, 3) := by decide +kernel
theorem dX4_isDigit_16 : decode cX4_isDigit 16 = .ok (.iconst 0, 1) := by decide +kernel
theorem dX4_isDigit_17 : decode cX4_isDigit 17 = .ok (.ireturn, 1) := by decide +kernel
theorem dX4_wrong_0 : decode cX4_wrong 0 = .ok (.aload_n 0, 1) := by decide +kernel
theorem dX4_wrong_1 : decode cX4_wrong 1 = .ok (.aload_n 0, 1) := by decide +kernel
theorem dX4_wrong_2 : decode cX4_wrong 2 = .ok (.getfield 71, 3) := by decide +kernel
theorem dX4_wrong_5 : decode cX4_wrong 5 = .ok (.ifCond .ne 9, 3) := by decide +kernel
theorem dX4_wrong_8 : decode cX4_wrong 8 = .ok (.iload_n 1, 1) := by decide +kernel
theorem dX4_wrong_9 : decode cX4_wrong 9 = .ok (.iconst 1, 1) := by decide +kernel
theorem dX4_wrong_10 : decode cX4_wrong 10 = .ok (.iadd, 1) := by decide +kernel
theorem dX4_wrong_11 : decode cX4_wrong 11 = .ok (.goto 7, 3) := by decide +kernel
theorem dX4_wrong_14 : decode cX4_wrong 14 = .ok (.aload_n 0, 1) := by decide +kernel
theorem dX4_wrong_15 : decode cX4_wrong 15 = .ok (.getfield 71, 3) := by decide +kernel
theorem dX4_wrong_18 : decode cX4_wrong 18 = .ok (.putfield 71, 3) := by decide +kernel
theorem dX4_wrong_21 : decode cX4_wrong 21 = .ok (.return_, 1) := by decide +kernel
set_option maxRecDepth 20000 in
theorem ggX4_want_X4_here : GoodIn wsX4_want wsX4_here := goodIn_r _ [6, 1, 7, 8, 14, 15, 16, 17, 18, 19, 20, 21, 22, 23, 24, 25, 26, 27, 28, 29, 30, 31, 32, 33, 34, 35, 36, 37, 38, 39, 40, 41, 42, 43, 44, 45, 46] (by decide +kernel) (by decide +kernel)
set_option maxRecDepth 20000 in
theorem gX4_want_X4_here : GoodIn wsX4_want (wsV RX4 74 RX4 yX4_here wsX4_here) := goodIn_app (goodIn_of _ (by decide +kernel)) ggX4_want_X4_here
set_option maxRecDepth 20000 in
theorem ggX4_want_X4_wrong : GoodIn wsX4_want wsX4_wrong := goodIn_r _ [12, 13, 14, 15, 16, 17, 18, 19, 20, 21, 22, 23, 24, 25, 26, 27, 28, 29, 30, 31, 32, 33, 34, 35, 36, 37, 38, 39, 40, 41, 42, 43, 44, 45, 46] (by decide +kernel) (by decide +kernel)
set_option maxRecDepth 20000 in
theorem gX4_want_X4_wrong : GoodIn wsX4_want (wsV RX4 78 RX4 yX4_wrong wsX4_wrong) := goodIn_app (goodIn_of _ (by decide +kernel)) ggX4_want_X4_wrong
theorem dX4_want_0 : decode cX4_want 0 = .ok (.aload_n 0, 1) := by decide +kernel
theorem dX4_want_1 : decode cX4_want 1 = .ok (.invokevirtual 74, 3) := by decide +kernel
theorem dX4_want_4 : decode cX4_want 4 = .ok (.iload_n 1, 1) := by decide +kernel
theorem dX4_want_5 : decode cX4_want 5 = .ok (.if_icmp .eq 11, 3) := by decide +kernel
theorem dX4_want_8 : decode cX4_want 8 = .ok (.aload_n 0, 1) := by decide +kernel
theorem dX4_want_9 : decode cX4_want 9 = .ok (.aload_n 0, 1) := by decide +kernel
theorem dX4_want_10 : decode cX4_want 10 = .ok (.getfield 68, 3) := by decide +kernel
theorem dX4_want_13 : decode cX4_want 13 = .ok (.invokevirtual 78, 3) := by decide +kernel
theorem dX4_want_16 : decode cX4_want 16 = .ok (.aload_n 0, 1) := by decide +kernel
theorem dX4_want_17 : decode cX4_want 17 = .ok (.dup, 1) := by decide +kernel
theorem dX4_want_18 : decode cX4_want 18 = .ok (.getfield 68, 3) := by decide +kernel
theorem dX4_want_21 : decode cX4_want 21 = .ok (.iconst 1, 1) := by decide +kernel
theorem dX4_want_22 : decode cX4_want 22 = .ok (.iadd, 1) := by decide +kernel
theorem dX4_want_23 : decode cX4_want 23 = .ok (.putfield 68, 3) := by decide +kernel
theorem dX4_want_26 : decode cX4_want 26 = .ok (.return_, 1) := by decide +kernel
set_option maxRecDepth 20000 in
theorem ggX4_readNumber_X4_here : GoodIn wsX4_readNumber wsX4_here := goodIn_r _ [9, 1, 10, 11, 20, 21, 22, 23, 24, 25, 26, 27, 28, 29, 30, 31, 32, 33, 34, 35, 36, 37, 38, 39, 40, 41, 42, 43, 44, 45, 46, 47, 48, 49, 50, 51, 52] (by decide +kernel) (by decide +kernel)
set_option maxRecDepth 20000 in
theorem gX4_readNumber_X4_here : GoodIn wsX4_readNumber (wsV RX4 74 RX4 yX4_here wsX4_here) := goodIn_app (goodIn_of _ (by decide +kernel)) ggX4_readNumber_X4_here
set_option maxRecDepth 20000 in
theorem ggX4_readNumber_X4_isDigit : GoodIn wsX4_readNumber wsX4_isDigit := goodIn_r _ [14] (by decide +kernel) (by decide +kernel)
set_option maxRecDepth 20000 in
theorem gX4_readNumber_X4_isDigit : GoodIn wsX4_readNumber (va_wsS RX4 86 yX4_isDigit wsX4_isDigit) := goodIn_app (goodIn_of _ (by decide +kernel)) ggX4_readNumber_X4_isDigit
set_option maxRecDepth 20000 in
theorem ggX4_readNumber_X4_wrong : GoodIn wsX4_readNumber wsX4_wrong := goodIn_r _ [18, 19, 20, 21, 22, 23, 24, 25, 26, 27, 28, 29, 30, 31, 32, 33, 34, 35, 36, 37, 38, 39, 40, 41, 42, 43, 44, 45, 46, 47, 48, 49, 50, 51, 52] (by decide +kernel) (by decide +kernel)
set_option maxRecDepth 20000 in
theorem gX4_readNumber_X4_wrong : GoodIn wsX4_readNumber (wsV RX4 78 RX4 yX4_wrong wsX4_wrong) := goodIn_app (goodIn_of _ (by decide +kernel)) ggX4_readNumber_X4_wrong
theorem dX4_readNumber_0 : decode cX4_readNumber 0 = .ok (.aload_n 0, 1) := by decide +kernel
theorem dX4_readNumber_1 : decode cX4_readNumber 1 = .ok (.getfield 68, 3) := by decide +kernel
theorem dX4_readNumber_4 : decode cX4_readNumber 4 = .ok (.istore 5, 2) := by decide +kernel
theorem dX4_readNumber_6 : decode cX4_readNumber 6 = .ok (.iconst 0, 1) := by decide +kernel
theorem dX4_readNumber_7 : decode cX4_readNumber 7 = .ok (.istore 6, 2) := by decide +kernel
theorem dX4_readNumber_9 : decode cX4_readNumber 9 = .ok (.aload_n 0, 1) := by decide +kernel
theorem dX4_readNumber_10 : decode cX4_readNumber 10 = .ok (.lconst 0, 1) := by decide +kernel
theorem dX4_readNumber_11 : decode cX4_readNumber 11 = .ok (.putfield 82, 3) := by decide +kernel
theorem dX4_readNumber_14 : decode cX4_readNumber 14 = .ok (.aload_n 0, 1) := by decide +kernel
theorem dX4_readNumber_15 : decode cX4_readNumber 15 = .ok (.invokevirtual 74, 3) := by decide +kernel
theorem dX4_readNumber_18 : decode cX4_readNumber 18 = .ok (.bipush 36, 2) := by decide +kernel
theorem dX4_readNumber_20 : decode cX4_readNumber 20 = .ok (.if_icmp .ne 7, 3) := by decide +kernel
theorem dX4_readNumber_23 : decode cX4_readNumber 23 = .ok (.iconst 1, 1) := by decide +kernel
theorem dX4_readNumber_24 : decode cX4_readNumber 24 = .ok (.goto 4, 3) := by decide +kernel
theorem dX4_readNumber_27 : decode cX4_readNumber 27 = .ok (.iconst 0, 1) := by decide +kernel
theorem dX4_readNumber_28 : decode cX4_readNumber 28 = .ok (.istore 7, 2) := by decide +kernel
theorem dX4_readNumber_30 : decode cX4_readNumber 30 = .ok (.iload 7, 2) := by decide +kernel
theorem dX4_readNumber_32 : decode cX4_readNumber 32 = .ok (.ifCond .eq 13, 3) := by decide +kernel
theorem dX4_readNumber_35 : decode cX4_readNumber 35 = .ok (.aload_n 0, 1) := by decide +kernel
