theorem dX2_readBlock_6 : decode cX2_readBlock 6 = .ok (.ifCond .eq 26, 3) := by decide +kernel
theorem dX2_readBlock_9 : decode cX2_readBlock 9 = .ok (.aload_n 0, 1) := by decide +kernel
theorem dX2_readBlock_10 : decode cX2_readBlock 10 = .ok (.iload_n 1, 1) := by decide +kernel
theorem dX2_readBlock_11 : decode cX2_readBlock 11 = .ok (.iconst 1, 1) := by decide +kernel
theorem dX2_readBlock_12 : decode cX2_readBlock 12 = .ok (.iadd, 1) := by decide +kernel
theorem dX2_readBlock_13 : decode cX2_readBlock 13 = .ok (.invokevirtual 41, 3) := by decide +kernel
theorem dX2_readBlock_16 : decode cX2_readBlock 16 = .ok (.ifCond .eq 16, 3) := by decide +kernel
theorem dX2_readBlock_19 : decode cX2_readBlock 19 = .ok (.aload_n 0, 1) := by decide +kernel
theorem dX2_readBlock_20 : decode cX2_readBlock 20 = .ok (.bipush 125, 2) := by decide +kernel
theorem dX2_readBlock_22 : decode cX2_readBlock 22 = .ok (.invokevirtual 45, 3) := by decide +kernel
theorem dX2_readBlock_25 : decode cX2_readBlock 25 = .ok (.ifCond .eq 7, 3) := by decide +kernel
theorem dX2_readBlock_28 : decode cX2_readBlock 28 = .ok (.iconst 1, 1) := by decide +kernel
theorem dX2_readBlock_29 : decode cX2_readBlock 29 = .ok (.goto 4, 3) := by decide +kernel
theorem dX2_readBlock_32 : decode cX2_readBlock 32 = .ok (.iconst 0, 1) := by decide +kernel
theorem dX2_readBlock_33 : decode cX2_readBlock 33 = .ok (.ireturn, 1) := by decide +kernel
set_option maxRecDepth 20000 in
theorem ggX2_readSum_X2_readTurned : GoodIn wsX2_readSum wsX2_readTurned := goodIn_r _ [73, 1, 74, 2, 38, 65, 66, 67, 6, 7, 8, 9, 10, 11, 12, 50, 51, 52, 53, 54, 55, 56, 45, 46, 47, 48, 49, 68, 17, 69, 70, 21, 20, 22, 23, 24, 25, 26, 27, 71, 29, 72, 31, 32, 33, 34, 35, 36, 37, 39, 40, 41, 42, 43, 44, 57, 58, 59, 60, 61, 62, 63, 64, 0, 3, 4, 5, 13, 14, 15, 16, 18, 19, 28, 30, 75, 76, 77, 78, 79, 80, 81, 82, 83, 84, 85, 86, 87, 88] (by decide +kernel) (by decide +kernel)
set_option maxRecDepth 20000 in
theorem gX2_readSum_X2_readTurned : GoodIn wsX2_readSum (wsV RX2 104 RX2 yX2_readTurned wsX2_readTurned) := goodIn_app (goodIn_of _ (by decide +kernel)) ggX2_readSum_X2_readTurned
set_option maxRecDepth 20000 in
theorem ggX2_readSum_X2_here : GoodIn wsX2_readSum wsX2_here := goodIn_r _ [10, 1, 11, 12, 75, 76, 77, 78, 79, 80, 81, 82] (by decide +kernel) (by decide +kernel)
set_option maxRecDepth 20000 in
theorem gX2_readSum_X2_here : GoodIn wsX2_readSum (wsV RX2 48 RX2 yX2_here wsX2_here) := goodIn_app (goodIn_of _ (by decide +kernel)) ggX2_readSum_X2_here
set_option maxRecDepth 20000 in
theorem ggX2_readSum_X2_isOperator : GoodIn wsX2_readSum wsX2_isOperator := goodIn_r _ [15] (by decide +kernel) (by decide +kernel)
set_option maxRecDepth 20000 in
theorem gX2_readSum_X2_isOperator : GoodIn wsX2_readSum (va_wsS RX2 107 yX2_isOperator wsX2_isOperator) := goodIn_app (goodIn_of _ (by decide +kernel)) ggX2_readSum_X2_isOperator
set_option maxRecDepth 20000 in
theorem ggX2_readSum_X0_addOfTwo : GoodIn wsX2_readSum wsX0_addOfTwo := goodIn_r _ [19, 20, 21, 22, 23, 24, 25, 17, 26, 27, 28, 29, 30, 31, 32, 33, 34, 35, 83, 84, 85, 86, 87, 88] (by decide +kernel) (by decide +kernel)
set_option maxRecDepth 20000 in
theorem gX2_readSum_X0_addOfTwo_n110 : GoodIn wsX2_readSum (wsX0_addOfTwo) := ggX2_readSum_X0_addOfTwo
theorem dX2_readSum_0 : decode cX2_readSum 0 = .ok (.aload_n 0, 1) := by decide +kernel
theorem dX2_readSum_1 : decode cX2_readSum 1 = .ok (.iload_n 1, 1) := by decide +kernel
theorem dX2_readSum_2 : decode cX2_readSum 2 = .ok (.invokevirtual 104, 3) := by decide +kernel
theorem dX2_readSum_5 : decode cX2_readSum 5 = .ok (.ifCond .ne 5, 3) := by decide +kernel
theorem dX2_readSum_8 : decode cX2_readSum 8 = .ok (.iconst 0, 1) := by decide +kernel
theorem dX2_readSum_9 : decode cX2_readSum 9 = .ok (.ireturn, 1) := by decide +kernel
theorem dX2_readSum_10 : decode cX2_readSum 10 = .ok (.iconst 0, 1) := by decide +kernel
theorem dX2_readSum_11 : decode cX2_readSum 11 = .ok (.istore_n 2, 1) := by decide +kernel
theorem dX2_readSum_12 : decode cX2_readSum 12 = .ok (.iload_n 2, 1) := by decide +kernel
theorem dX2_readSum_13 : decode cX2_readSum 13 = .ok (.sipush 480, 3) := by decide +kernel
theorem dX2_readSum_16 : decode cX2_readSum 16 = .ok (.if_icmp .ge 52, 3) := by decide +kernel
theorem dX2_readSum_19 : decode cX2_readSum 19 = .ok (.aload_n 0, 1) := by decide +kernel
theorem dX2_readSum_20 : decode cX2_readSum 20 = .ok (.invokevirtual 48, 3) := by decide +kernel
theorem dX2_readSum_23 : decode cX2_readSum 23 = .ok (.invokestatic 107, 3) := by decide +kernel
theorem dX2_readSum_26 : decode cX2_readSum 26 = .ok (.ifCond .eq 42, 3) := by decide +kernel
theorem dX2_readSum_29 : decode cX2_readSum 29 = .ok (.aload_n 0, 1) := by decide +kernel
theorem dX2_readSum_30 : decode cX2_readSum 30 = .ok (.invokevirtual 48, 3) := by decide +kernel
theorem dX2_readSum_33 : decode cX2_readSum 33 = .ok (.istore_n 3, 1) := by decide +kernel
theorem dX2_readSum_34 : decode cX2_readSum 34 = .ok (.aload_n 0, 1) := by decide +kernel
theorem dX2_readSum_35 : decode cX2_readSum 35 = .ok (.dup, 1) := by decide +kernel
theorem dX2_readSum_36 : decode cX2_readSum 36 = .ok (.getfield 29, 3) := by decide +kernel
theorem dX2_readSum_39 : decode cX2_readSum 39 = .ok (.iconst 1, 1) := by decide +kernel
theorem dX2_readSum_40 : decode cX2_readSum 40 = .ok (.iadd, 1) := by decide +kernel
theorem dX2_readSum_41 : decode cX2_readSum 41 = .ok (.putfield 29, 3) := by decide +kernel
theorem dX2_readSum_44 : decode cX2_readSum 44 = .ok (.aload_n 0, 1) := by decide +kernel
theorem dX2_readSum_45 : decode cX2_readSum 45 = .ok (.iload_n 1, 1) := by decide +kernel
theorem dX2_readSum_46 : decode cX2_readSum 46 = .ok (.invokevirtual 104, 3) := by decide +kernel
theorem dX2_readSum_49 : decode cX2_readSum 49 = .ok (.ifCond .ne 5, 3) := by decide +kernel
theorem dX2_readSum_52 : decode cX2_readSum 52 = .ok (.iconst 0, 1) := by decide +kernel
theorem dX2_readSum_53 : decode cX2_readSum 53 = .ok (.ireturn, 1) := by decide +kernel
theorem dX2_readSum_54 : decode cX2_readSum 54 = .ok (.aload_n 0, 1) := by decide +kernel
theorem dX2_readSum_55 : decode cX2_readSum 55 = .ok (.getfield 18, 3) := by decide +kernel
theorem dX2_readSum_58 : decode cX2_readSum 58 = .ok (.iload_n 3, 1) := by decide +kernel
theorem dX2_readSum_59 : decode cX2_readSum 59 = .ok (.invokevirtual 110, 3) := by decide +kernel
theorem dX2_readSum_62 : decode cX2_readSum 62 = .ok (.iinc 2 1, 3) := by decide +kernel
theorem dX2_readSum_65 : decode cX2_readSum 65 = .ok (.goto (-53), 3) := by decide +kernel
theorem dX2_readSum_68 : decode cX2_readSum 68 = .ok (.iconst 1, 1) := by decide +kernel
theorem dX2_readSum_69 : decode cX2_readSum 69 = .ok (.ireturn, 1) := by decide +kernel
set_option maxRecDepth 20000 in
theorem ggX2_readTurned_X2_readFactor : GoodIn wsX2_readTurned wsX2_readFactor := goodIn_r _ [47, 1, 3, 48, 4, 9, 10, 11, 8, 12, 13, 14, 49, 50, 51, 43, 28, 44, 45, 32, 38, 31, 46, 52, 53, 54, 22, 23, 24, 25, 26, 15, 16, 17, 18, 19, 20, 21, 55, 56, 57, 58, 59, 60, 61, 62, 5, 6, 7, 27, 29, 30, 33, 34, 35, 36, 37, 39, 40, 41, 42, 63, 64, 65, 66, 67, 68, 69, 70, 71, 72, 73, 74, 0, 2, 75, 76, 77, 78, 79, 80, 81, 82, 83, 84, 85, 86, 87, 88] (by decide +kernel) (by decide +kernel)
set_option maxRecDepth 20000 in
theorem gX2_readTurned_X2_readFactor : GoodIn wsX2_readTurned (wsV RX2 114 RX2 yX2_readFactor wsX2_readFactor) := goodIn_app (goodIn_of _ (by decide +kernel)) ggX2_readTurned_X2_readFactor
set_option maxRecDepth 20000 in
theorem ggX2_readTurned_X2_here : GoodIn wsX2_readTurned wsX2_here := goodIn_r _ [12, 1, 13, 14, 75, 76, 77, 78, 79, 80, 81, 82] (by decide +kernel) (by decide +kernel)
set_option maxRecDepth 20000 in
theorem gX2_readTurned_X2_here : GoodIn wsX2_readTurned (wsV RX2 48 RX2 yX2_here wsX2_here) := goodIn_app (goodIn_of _ (by decide +kernel)) ggX2_readTurned_X2_here
set_option maxRecDepth 20000 in
theorem ggX2_readTurned_X2_readNumber : GoodIn wsX2_readTurned wsX2_readNumber := goodIn_r _ [18, 1, 4, 9, 10, 11, 8, 12, 13, 14, 19, 20, 21, 22, 23, 24, 25, 26, 75, 76, 77, 78, 79, 80, 81, 82] (by decide +kernel) (by decide +kernel)
set_option maxRecDepth 20000 in
theorem gX2_readTurned_X2_readNumber : GoodIn wsX2_readTurned (wsV RX2 86 RX2 yX2_readNumber wsX2_readNumber) := goodIn_app (goodIn_of _ (by decide +kernel)) ggX2_readTurned_X2_readNumber
set_option maxRecDepth 20000 in
theorem ggX2_readTurned_X0_addOfOne : GoodIn wsX2_readTurned wsX0_addOfOne := goodIn_r _ [30, 31, 32, 33, 34, 35, 36, 28, 37, 38, 39, 40, 41, 42, 43, 44, 45, 46, 83, 84, 85, 86, 87, 88] (by decide +kernel) (by decide +kernel)
set_option maxRecDepth 20000 in
theorem gX2_readTurned_X0_addOfOne_n119 : GoodIn wsX2_readTurned (wsX0_addOfOne) := ggX2_readTurned_X0_addOfOne
theorem dX2_readTurned_0 : decode cX2_readTurned 0 = .ok (.aload_n 0, 1) := by decide +kernel
theorem dX2_readTurned_1 : decode cX2_readTurned 1 = .ok (.iload_n 1, 1) := by decide +kernel
theorem dX2_readTurned_2 : decode cX2_readTurned 2 = .ok (.invokevirtual 114, 3) := by decide +kernel
theorem dX2_readTurned_5 : decode cX2_readTurned 5 = .ok (.ifCond .ne 5, 3) := by decide +kernel
theorem dX2_readTurned_8 : decode cX2_readTurned 8 = .ok (.iconst 0, 1) := by decide +kernel
theorem dX2_readTurned_9 : decode cX2_readTurned 9 = .ok (.ireturn, 1) := by decide +kernel
theorem dX2_readTurned_10 : decode cX2_readTurned 10 = .ok (.iconst 0, 1) := by decide +kernel
theorem dX2_readTurned_11 : decode cX2_readTurned 11 = .ok (.istore_n 2, 1) := by decide +kernel
theorem dX2_readTurned_12 : decode cX2_readTurned 12 = .ok (.iload_n 2, 1) := by decide +kernel
theorem dX2_readTurned_13 : decode cX2_readTurned 13 = .ok (.sipush 480, 3) := by decide +kernel
theorem dX2_readTurned_16 : decode cX2_readTurned 16 = .ok (.if_icmp .ge 68, 3) := by decide +kernel
theorem dX2_readTurned_19 : decode cX2_readTurned 19 = .ok (.aload_n 0, 1) := by decide +kernel
theorem dX2_readTurned_20 : decode cX2_readTurned 20 = .ok (.invokevirtual 48, 3) := by decide +kernel
theorem dX2_readTurned_23 : decode cX2_readTurned 23 = .ok (.bipush 60, 2) := by decide +kernel
theorem dX2_readTurned_25 : decode cX2_readTurned 25 = .ok (.if_icmp .eq 12, 3) := by decide +kernel
theorem dX2_readTurned_28 : decode cX2_readTurned 28 = .ok (.aload_n 0, 1) := by decide +kernel
theorem dX2_readTurned_29 : decode cX2_readTurned 29 = .ok (.invokevirtual 48, 3) := by decide +kernel
theorem dX2_readTurned_32 : decode cX2_readTurned 32 = .ok (.bipush 62, 2) := by decide +kernel
theorem dX2_readTurned_34 : decode cX2_readTurned 34 = .ok (.if_icmp .ne 50, 3) := by decide +kernel
theorem dX2_readTurned_37 : decode cX2_readTurned 37 = .ok (.aload_n 0, 1) := by decide +kernel
theorem dX2_readTurned_38 : decode cX2_readTurned 38 = .ok (.invokevirtual 48, 3) := by decide +kernel
theorem dX2_readTurned_41 : decode cX2_readTurned 41 = .ok (.istore_n 3, 1) := by decide +kernel
theorem dX2_readTurned_42 : decode cX2_readTurned 42 = .ok (.aload_n 0, 1) := by decide +kernel
theorem dX2_readTurned_43 : decode cX2_readTurned 43 = .ok (.dup, 1) := by decide +kernel
theorem dX2_readTurned_44 : decode cX2_readTurned 44 = .ok (.getfield 29, 3) := by decide +kernel
theorem dX2_readTurned_47 : decode cX2_readTurned 47 = .ok (.iconst 1, 1) := by decide +kernel
theorem dX2_readTurned_48 : decode cX2_readTurned 48 = .ok (.iadd, 1) := by decide +kernel
theorem dX2_readTurned_49 : decode cX2_readTurned 49 = .ok (.putfield 29, 3) := by decide +kernel
theorem dX2_readTurned_52 : decode cX2_readTurned 52 = .ok (.aload_n 0, 1) := by decide +kernel
theorem dX2_readTurned_53 : decode cX2_readTurned 53 = .ok (.lconst 1, 1) := by decide +kernel
theorem dX2_readTurned_54 : decode cX2_readTurned 54 = .ok (.ldc2_w 117, 3) := by decide +kernel
theorem dX2_readTurned_57 : decode cX2_readTurned 57 = .ok (.invokevirtual 86, 3) := by decide +kernel
theorem dX2_readTurned_60 : decode cX2_readTurned 60 = .ok (.ifCond .ne 5, 3) := by decide +kernel
theorem dX2_readTurned_63 : decode cX2_readTurned 63 = .ok (.iconst 0, 1) := by decide +kernel
theorem dX2_readTurned_64 : decode cX2_readTurned 64 = .ok (.ireturn, 1) := by decide +kernel
theorem dX2_readTurned_65 : decode cX2_readTurned 65 = .ok (.aload_n 0, 1) := by decide +kernel
theorem dX2_readTurned_66 : decode cX2_readTurned 66 = .ok (.getfield 18, 3) := by decide +kernel
theorem dX2_readTurned_69 : decode cX2_readTurned 69 = .ok (.iload_n 3, 1) := by decide +kernel
theorem dX2_readTurned_70 : decode cX2_readTurned 70 = .ok (.aload_n 0, 1) := by decide +kernel
theorem dX2_readTurned_71 : decode cX2_readTurned 71 = .ok (.getfield 90, 3) := by decide +kernel
theorem dX2_readTurned_74 : decode cX2_readTurned 74 = .ok (.l2i, 1) := by decide +kernel
theorem dX2_readTurned_75 : decode cX2_readTurned 75 = .ok (.invokevirtual 119, 3) := by decide +kernel
theorem dX2_readTurned_78 : decode cX2_readTurned 78 = .ok (.iinc 2 1, 3) := by decide +kernel
theorem dX2_readTurned_81 : decode cX2_readTurned 81 = .ok (.goto (-69), 3) := by decide +kernel
theorem dX2_readTurned_84 : decode cX2_readTurned 84 = .ok (.iconst 1, 1) := by decide +kernel
theorem dX2_readTurned_85 : decode cX2_readTurned 85 = .ok (.ireturn, 1) := by decide +kernel
set_option maxRecDepth 20000 in
theorem ggX2_readFactor_X2_here : GoodIn wsX2_readFactor wsX2_here := goodIn_r _ [9, 1, 10, 11, 75, 76, 77, 78, 79, 80, 81, 82] (by decide +kernel) (by decide +kernel)
set_option maxRecDepth 20000 in
theorem gX2_readFactor_X2_here : GoodIn wsX2_readFactor (wsV RX2 48 RX2 yX2_here wsX2_here) := goodIn_app (goodIn_of _ (by decide +kernel)) ggX2_readFactor_X2_here
set_option maxRecDepth 20000 in
theorem ggX2_readFactor_X2_nameOf : GoodIn wsX2_readFactor wsX2_nameOf := goodIn_r _ [14] (by decide +kernel) (by decide +kernel)
set_option maxRecDepth 20000 in
theorem gX2_readFactor_X2_nameOf : GoodIn wsX2_readFactor (va_wsS RX2 122 yX2_nameOf wsX2_nameOf) := goodIn_app (goodIn_of _ (by decide +kernel)) ggX2_readFactor_X2_nameOf
set_option maxRecDepth 20000 in
theorem ggX2_readFactor_X0_add : GoodIn wsX2_readFactor wsX0_add := goodIn_r _ [18, 19, 20, 21, 22, 83, 84, 85, 86, 87, 88] (by decide +kernel) (by decide +kernel)
set_option maxRecDepth 20000 in
theorem gX2_readFactor_X0_add_n80 : GoodIn wsX2_readFactor (wsX0_add) := ggX2_readFactor_X0_add
set_option maxRecDepth 20000 in
theorem ggX2_readFactor_X2_readNested : GoodIn wsX2_readFactor wsX2_readNested := goodIn_r _ [38, 1, 2, 5, 6, 7, 8, 9, 10, 11, 39, 40, 41, 42, 43, 44, 45, 26, 27, 28, 29, 30, 46, 47, 48, 49, 16, 50, 51, 21, 19, 52, 53, 54, 55, 56, 20, 57, 58, 59, 60, 15, 17, 18, 22, 0, 3, 4, 12, 13, 14, 23, 24, 25, 31, 32, 33, 34, 35, 36, 37, 61, 62, 63, 64, 65, 66, 67, 68, 69, 70, 71, 72, 73, 74, 75, 76, 77, 78, 79, 80, 81, 82, 83, 84, 85, 86, 87, 88] (by decide +kernel) (by decide +kernel)
set_option maxRecDepth 20000 in
theorem gX2_readFactor_X2_readNested : GoodIn wsX2_readFactor (wsV RX2 126 RX2 yX2_readNested wsX2_readNested) := goodIn_app (goodIn_of _ (by decide +kernel)) ggX2_readFactor_X2_readNested
set_option maxRecDepth 20000 in
theorem ggX2_readFactor_X2_refuse : GoodIn wsX2_readFactor wsX2_refuse := goodIn_r _ [29, 30, 75, 76, 77, 78, 79, 80, 81, 82] (by decide +kernel) (by decide +kernel)
set_option maxRecDepth 20000 in
theorem gX2_readFactor_X2_refuse : GoodIn wsX2_readFactor (wsV RX2 52 RX2 yX2_refuse wsX2_refuse) := goodIn_app (goodIn_of _ (by decide +kernel)) ggX2_readFactor_X2_refuse
set_option maxRecDepth 20000 in
theorem ggX2_readFactor_X2_readNumber : GoodIn wsX2_readFactor wsX2_readNumber := goodIn_r _ [34, 1, 4, 5, 6, 7, 8, 9, 10, 11, 35, 36, 37, 26, 27, 28, 29, 30, 75, 76, 77, 78, 79, 80, 81, 82] (by decide +kernel) (by decide +kernel)
set_option maxRecDepth 20000 in
theorem gX2_readFactor_X2_readNumber : GoodIn wsX2_readFactor (wsV RX2 86 RX2 yX2_readNumber wsX2_readNumber) := goodIn_app (goodIn_of _ (by decide +kernel)) ggX2_readFactor_X2_readNumber
theorem dX2_readFactor_0 : decode cX2_readFactor 0 = .ok (.aload_n 0, 1) := by decide +kernel
theorem dX2_readFactor_1 : decode cX2_readFactor 1 = .ok (.invokevirtual 48, 3) := by decide +kernel
theorem dX2_readFactor_4 : decode cX2_readFactor 4 = .ok (.invokestatic 122, 3) := by decide +kernel
theorem dX2_readFactor_7 : decode cX2_readFactor 7 = .ok (.istore_n 2, 1) := by decide +kernel
theorem dX2_readFactor_8 : decode cX2_readFactor 8 = .ok (.iload_n 2, 1) := by decide +kernel
theorem dX2_readFactor_9 : decode cX2_readFactor 9 = .ok (.ifCond .lt 25, 3) := by decide +kernel
theorem dX2_readFactor_12 : decode cX2_readFactor 12 = .ok (.aload_n 0, 1) := by decide +kernel
theorem dX2_readFactor_13 : decode cX2_readFactor 13 = .ok (.dup, 1) := by decide +kernel
theorem dX2_readFactor_14 : decode cX2_readFactor 14 = .ok (.getfield 29, 3) := by decide +kernel
theorem dX2_readFactor_17 : decode cX2_readFactor 17 = .ok (.iconst 1, 1) := by decide +kernel
theorem dX2_readFactor_18 : decode cX2_readFactor 18 = .ok (.iadd, 1) := by decide +kernel
theorem dX2_readFactor_19 : decode cX2_readFactor 19 = .ok (.putfield 29, 3) := by decide +kernel
theorem dX2_readFactor_22 : decode cX2_readFactor 22 = .ok (.aload_n 0, 1) := by decide +kernel
theorem dX2_readFactor_23 : decode cX2_readFactor 23 = .ok (.getfield 18, 3) := by decide +kernel
theorem dX2_readFactor_26 : decode cX2_readFactor 26 = .ok (.iconst 2, 1) := by decide +kernel
theorem dX2_readFactor_27 : decode cX2_readFactor 27 = .ok (.iload_n 2, 1) := by decide +kernel
theorem dX2_readFactor_28 : decode cX2_readFactor 28 = .ok (.iconst 0, 1) := by decide +kernel
theorem dX2_readFactor_29 : decode cX2_readFactor 29 = .ok (.invokevirtual 80, 3) := by decide +kernel
theorem dX2_readFactor_32 : decode cX2_readFactor 32 = .ok (.iconst 1, 1) := by decide +kernel
theorem dX2_readFactor_33 : decode cX2_readFactor 33 = .ok (.ireturn, 1) := by decide +kernel
theorem dX2_readFactor_34 : decode cX2_readFactor 34 = .ok (.aload_n 0, 1) := by decide +kernel
theorem dX2_readFactor_35 : decode cX2_readFactor 35 = .ok (.invokevirtual 48, 3) := by decide +kernel
theorem dX2_readFactor_38 : decode cX2_readFactor 38 = .ok (.bipush 126, 2) := by decide +kernel
theorem dX2_readFactor_40 : decode cX2_readFactor 40 = .ok (.if_icmp .eq 21, 3) := by decide +kernel
theorem dX2_readFactor_43 : decode cX2_readFactor 43 = .ok (.aload_n 0, 1) := by decide +kernel
theorem dX2_readFactor_44 : decode cX2_readFactor 44 = .ok (.invokevirtual 48, 3) := by decide +kernel
theorem dX2_readFactor_47 : decode cX2_readFactor 47 = .ok (.bipush 40, 2) := by decide +kernel
theorem dX2_readFactor_49 : decode cX2_readFactor 49 = .ok (.if_icmp .eq 12, 3) := by decide +kernel
theorem dX2_readFactor_52 : decode cX2_readFactor 52 = .ok (.aload_n 0, 1) := by decide +kernel
theorem dX2_readFactor_53 : decode cX2_readFactor 53 = .ok (.invokevirtual 48, 3) := by decide +kernel
theorem dX2_readFactor_56 : decode cX2_readFactor 56 = .ok (.bipush 64, 2) := by decide +kernel
theorem dX2_readFactor_58 : decode cX2_readFactor 58 = .ok (.if_icmp .ne 28, 3) := by decide +kernel
theorem dX2_readFactor_61 : decode cX2_readFactor 61 = .ok (.iload_n 1, 1) := by decide +kernel
theorem dX2_readFactor_62 : decode cX2_readFactor 62 = .ok (.bipush 12, 2) := by decide +kernel
theorem dX2_readFactor_64 : decode cX2_readFactor 64 = .ok (.if_icmp .ge 13, 3) := by decide +kernel
theorem dX2_readFactor_67 : decode cX2_readFactor 67 = .ok (.aload_n 0, 1) := by decide +kernel
theorem dX2_readFactor_68 : decode cX2_readFactor 68 = .ok (.iload_n 1, 1) := by decide +kernel
theorem dX2_readFactor_69 : decode cX2_readFactor 69 = .ok (.iconst 1, 1) := by decide +kernel
theorem dX2_readFactor_70 : decode cX2_readFactor 70 = .ok (.iadd, 1) := by decide +kernel
theorem dX2_readFactor_71 : decode cX2_readFactor 71 = .ok (.invokevirtual 126, 3) := by decide +kernel
theorem dX2_readFactor_74 : decode cX2_readFactor 74 = .ok (.goto 11, 3) := by decide +kernel
theorem dX2_readFactor_77 : decode cX2_readFactor 77 = .ok (.aload_n 0, 1) := by decide +kernel
theorem dX2_readFactor_78 : decode cX2_readFactor 78 = .ok (.aload_n 0, 1) := by decide +kernel
theorem dX2_readFactor_79 : decode cX2_readFactor 79 = .ok (.getfield 29, 3) := by decide +kernel
theorem dX2_readFactor_82 : decode cX2_readFactor 82 = .ok (.invokevirtual 52, 3) := by decide +kernel
theorem dX2_readFactor_85 : decode cX2_readFactor 85 = .ok (.ireturn, 1) := by decide +kernel
theorem dX2_readFactor_86 : decode cX2_readFactor 86 = .ok (.aload_n 0, 1) := by decide +kernel
theorem dX2_readFactor_87 : decode cX2_readFactor 87 = .ok (.lconst 0, 1) := by decide +kernel
theorem dX2_readFactor_88 : decode cX2_readFactor 88 = .ok (.ldc2_w 129, 3) := by decide +kernel
theorem dX2_readFactor_91 : decode cX2_readFactor 91 = .ok (.invokevirtual 86, 3) := by decide +kernel
theorem dX2_readFactor_94 : decode cX2_readFactor 94 = .ok (.ifCond .ne 5, 3) := by decide +kernel
theorem dX2_readFactor_97 : decode cX2_readFactor 97 = .ok (.iconst 0, 1) := by decide +kernel
theorem dX2_readFactor_98 : decode cX2_readFactor 98 = .ok (.ireturn, 1) := by decide +kernel
theorem dX2_readFactor_99 : decode cX2_readFactor 99 = .ok (.aload_n 0, 1) := by decide +kernel
theorem dX2_readFactor_100 : decode cX2_readFactor 100 = .ok (.getfield 18, 3) := by decide +kernel
theorem dX2_readFactor_103 : decode cX2_readFactor 103 = .ok (.iconst 1, 1) := by decide +kernel
theorem dX2_readFactor_104 : decode cX2_readFactor 104 = .ok (.aload_n 0, 1) := by decide +kernel
theorem dX2_readFactor_105 : decode cX2_readFactor 105 = .ok (.getfield 90, 3) := by decide +kernel
theorem dX2_readFactor_108 : decode cX2_readFactor 108 = .ok (.l2i, 1) := by decide +kernel
theorem dX2_readFactor_109 : decode cX2_readFactor 109 = .ok (.iconst 0, 1) := by decide +kernel
theorem dX2_readFactor_110 : decode cX2_readFactor 110 = .ok (.invokevirtual 80, 3) := by decide +kernel
theorem dX2_readFactor_113 : decode cX2_readFactor 113 = .ok (.iconst 1, 1) := by decide +kernel
theorem dX2_readFactor_114 : decode cX2_readFactor 114 = .ok (.ireturn, 1) := by decide +kernel
set_option maxRecDepth 20000 in
theorem ggX2_readNested_X2_here : GoodIn wsX2_readNested wsX2_here := goodIn_r _ [7, 1, 8, 9, 75, 76, 77, 78, 79, 80, 81, 82] (by decide +kernel) (by decide +kernel)
set_option maxRecDepth 20000 in
theorem gX2_readNested_X2_here : GoodIn wsX2_readNested (wsV RX2 48 RX2 yX2_here wsX2_here) := goodIn_app (goodIn_of _ (by decide +kernel)) ggX2_readNested_X2_here
set_option maxRecDepth 20000 in
theorem ggX2_readNested_X2_readSum : GoodIn wsX2_readNested wsX2_readSum := goodIn_r _ [61, 1, 2, 62, 63, 64, 6, 3, 4, 5, 7, 8, 9, 65, 66, 67, 68, 26, 69, 70, 30, 29, 31, 32, 33, 34, 35, 36, 71, 38, 72, 40, 41, 42, 43, 44, 45, 46, 47, 48, 49, 50, 51, 52, 53, 17, 18, 19, 20, 21, 54, 55, 56, 57, 58, 59, 60, 0, 10, 11, 12, 13, 14, 15, 16, 22, 23, 24, 25, 27, 28, 37, 39, 73, 74, 75, 76, 77, 78, 79, 80, 81, 82, 83, 84, 85, 86, 87, 88] (by decide +kernel) (by decide +kernel)
set_option maxRecDepth 20000 in
theorem gX2_readNested_X2_readSum : GoodIn wsX2_readNested (wsV RX2 77 RX2 yX2_readSum wsX2_readSum) := goodIn_app (goodIn_of _ (by decide +kernel)) ggX2_readNested_X2_readSum
set_option maxRecDepth 20000 in
theorem ggX2_readNested_X2_expect : GoodIn wsX2_readNested wsX2_expect := goodIn_r _ [16, 1, 3, 4, 5, 6, 7, 8, 9, 17, 18, 19, 20, 21, 75, 76, 77, 78, 79, 80, 81, 82] (by decide +kernel) (by decide +kernel)
set_option maxRecDepth 20000 in
theorem gX2_readNested_X2_expect : GoodIn wsX2_readNested (wsV RX2 45 RX2 yX2_expect wsX2_expect) := goodIn_app (goodIn_of _ (by decide +kernel)) ggX2_readNested_X2_expect
set_option maxRecDepth 20000 in
theorem ggX2_readNested_X2_readFactor : GoodIn wsX2_readNested wsX2_readFactor := goodIn_r _ [45, 1, 2, 46, 47, 3, 4, 5, 6, 7, 8, 9, 48, 49, 50, 41, 26, 42, 43, 30, 36, 29, 44, 51, 52, 53, 17, 18, 19, 20, 21, 54, 55, 56, 57, 58, 59, 60, 0, 10, 11, 12, 13, 14, 15, 16, 22, 23, 24, 25, 27, 28, 31, 32, 33, 34, 35, 37, 38, 39, 40, 61, 62, 63, 64, 65, 66, 67, 68, 69, 70, 71, 72, 73, 74, 75, 76, 77, 78, 79, 80, 81, 82, 83, 84, 85, 86, 87, 88] (by decide +kernel) (by decide +kernel)
set_option maxRecDepth 20000 in
theorem gX2_readNested_X2_readFactor : GoodIn wsX2_readNested (wsV RX2 114 RX2 yX2_readFactor wsX2_readFactor) := goodIn_app (goodIn_of _ (by decide +kernel)) ggX2_readNested_X2_readFactor
set_option maxRecDepth 20000 in
theorem ggX2_readNested_X0_addOfOne : GoodIn wsX2_readNested wsX0_addOfOne := goodIn_r _ [28, 29, 30, 31, 32, 33, 34, 26, 35, 36, 37, 38, 39, 40, 41, 42, 43, 44, 83, 84, 85, 86, 87, 88] (by decide +kernel) (by decide +kernel)
set_option maxRecDepth 20000 in
theorem gX2_readNested_X0_addOfOne_n119 : GoodIn wsX2_readNested (wsX0_addOfOne) := ggX2_readNested_X0_addOfOne
set_option maxRecDepth 20000 in
theorem ggX2_readNested_X0_add : GoodIn wsX2_readNested wsX0_add := goodIn_r _ [43, 30, 36, 29, 44, 83, 84, 85, 86, 87, 88] (by decide +kernel) (by decide +kernel)
set_option maxRecDepth 20000 in
theorem gX2_readNested_X0_add_n80 : GoodIn wsX2_readNested (wsX0_add) := ggX2_readNested_X0_add
theorem dX2_readNested_0 : decode cX2_readNested 0 = .ok (.aload_n 0, 1) := by decide +kernel
theorem dX2_readNested_1 : decode cX2_readNested 1 = .ok (.invokevirtual 48, 3) := by decide +kernel
theorem dX2_readNested_4 : decode cX2_readNested 4 = .ok (.istore_n 2, 1) := by decide +kernel
theorem dX2_readNested_5 : decode cX2_readNested 5 = .ok (.aload_n 0, 1) := by decide +kernel
theorem dX2_readNested_6 : decode cX2_readNested 6 = .ok (.dup, 1) := by decide +kernel
theorem dX2_readNested_7 : decode cX2_readNested 7 = .ok (.getfield 29, 3) := by decide +kernel
theorem dX2_readNested_10 : decode cX2_readNested 10 = .ok (.iconst 1, 1) := by decide +kernel
theorem dX2_readNested_11 : decode cX2_readNested 11 = .ok (.iadd, 1) := by decide +kernel
theorem dX2_readNested_12 : decode cX2_readNested 12 = .ok (.putfield 29, 3) := by decide +kernel
theorem dX2_readNested_15 : decode cX2_readNested 15 = .ok (.iload_n 2, 1) := by decide +kernel
theorem dX2_readNested_16 : decode cX2_readNested 16 = .ok (.bipush 40, 2) := by decide +kernel
theorem dX2_readNested_18 : decode cX2_readNested 18 = .ok (.if_icmp .ne 26, 3) := by decide +kernel
theorem dX2_readNested_21 : decode cX2_readNested 21 = .ok (.aload_n 0, 1) := by decide +kernel
theorem dX2_readNested_22 : decode cX2_readNested 22 = .ok (.iload_n 1, 1) := by decide +kernel
theorem dX2_readNested_23 : decode cX2_readNested 23 = .ok (.invokevirtual 77, 3) := by decide +kernel
theorem dX2_readNested_26 : decode cX2_readNested 26 = .ok (.ifCond .eq 16, 3) := by decide +kernel
theorem dX2_readNested_29 : decode cX2_readNested 29 = .ok (.aload_n 0, 1) := by decide +kernel
theorem dX2_readNested_30 : decode cX2_readNested 30 = .ok (.bipush 41, 2) := by decide +kernel
theorem dX2_readNested_32 : decode cX2_readNested 32 = .ok (.invokevirtual 45, 3) := by decide +kernel
theorem dX2_readNested_35 : decode cX2_readNested 35 = .ok (.ifCond .eq 7, 3) := by decide +kernel
theorem dX2_readNested_38 : decode cX2_readNested 38 = .ok (.iconst 1, 1) := by decide +kernel
theorem dX2_readNested_39 : decode cX2_readNested 39 = .ok (.goto 4, 3) := by decide +kernel
theorem dX2_readNested_42 : decode cX2_readNested 42 = .ok (.iconst 0, 1) := by decide +kernel
theorem dX2_readNested_43 : decode cX2_readNested 43 = .ok (.ireturn, 1) := by decide +kernel
theorem dX2_readNested_44 : decode cX2_readNested 44 = .ok (.iload_n 2, 1) := by decide +kernel
theorem dX2_readNested_45 : decode cX2_readNested 45 = .ok (.bipush 126, 2) := by decide +kernel
theorem dX2_readNested_47 : decode cX2_readNested 47 = .ok (.if_icmp .ne 24, 3) := by decide +kernel
theorem dX2_readNested_50 : decode cX2_readNested 50 = .ok (.aload_n 0, 1) := by decide +kernel
theorem dX2_readNested_51 : decode cX2_readNested 51 = .ok (.iload_n 1, 1) := by decide +kernel
theorem dX2_readNested_52 : decode cX2_readNested 52 = .ok (.invokevirtual 114, 3) := by decide +kernel
theorem dX2_readNested_55 : decode cX2_readNested 55 = .ok (.ifCond .ne 5, 3) := by decide +kernel
theorem dX2_readNested_58 : decode cX2_readNested 58 = .ok (.iconst 0, 1) := by decide +kernel
theorem dX2_readNested_59 : decode cX2_readNested 59 = .ok (.ireturn, 1) := by decide +kernel
theorem dX2_readNested_60 : decode cX2_readNested 60 = .ok (.aload_n 0, 1) := by decide +kernel
theorem dX2_readNested_61 : decode cX2_readNested 61 = .ok (.getfield 18, 3) := by decide +kernel
theorem dX2_readNested_64 : decode cX2_readNested 64 = .ok (.iload_n 2, 1) := by decide +kernel
theorem dX2_readNested_65 : decode cX2_readNested 65 = .ok (.iconst 0, 1) := by decide +kernel
theorem dX2_readNested_66 : decode cX2_readNested 66 = .ok (.invokevirtual 119, 3) := by decide +kernel
theorem dX2_readNested_69 : decode cX2_readNested 69 = .ok (.iconst 1, 1) := by decide +kernel
theorem dX2_readNested_70 : decode cX2_readNested 70 = .ok (.ireturn, 1) := by decide +kernel
theorem dX2_readNested_71 : decode cX2_readNested 71 = .ok (.aload_n 0, 1) := by decide +kernel
theorem dX2_readNested_72 : decode cX2_readNested 72 = .ok (.bipush 91, 2) := by decide +kernel
theorem dX2_readNested_74 : decode cX2_readNested 74 = .ok (.invokevirtual 45, 3) := by decide +kernel
theorem dX2_readNested_77 : decode cX2_readNested 77 = .ok (.ifCond .eq 20, 3) := by decide +kernel
theorem dX2_readNested_80 : decode cX2_readNested 80 = .ok (.aload_n 0, 1) := by decide +kernel
theorem dX2_readNested_81 : decode cX2_readNested 81 = .ok (.iload_n 1, 1) := by decide +kernel
theorem dX2_readNested_82 : decode cX2_readNested 82 = .ok (.invokevirtual 77, 3) := by decide +kernel
theorem dX2_readNested_85 : decode cX2_readNested 85 = .ok (.ifCond .eq 12, 3) := by decide +kernel
theorem dX2_readNested_88 : decode cX2_readNested 88 = .ok (.aload_n 0, 1) := by decide +kernel
theorem dX2_readNested_89 : decode cX2_readNested 89 = .ok (.bipush 93, 2) := by decide +kernel
theorem dX2_readNested_91 : decode cX2_readNested 91 = .ok (.invokevirtual 45, 3) := by decide +kernel
theorem dX2_readNested_94 : decode cX2_readNested 94 = .ok (.ifCond .ne 5, 3) := by decide +kernel
theorem dX2_readNested_97 : decode cX2_readNested 97 = .ok (.iconst 0, 1) := by decide +kernel
theorem dX2_readNested_98 : decode cX2_readNested 98 = .ok (.ireturn, 1) := by decide +kernel
theorem dX2_readNested_99 : decode cX2_readNested 99 = .ok (.aload_n 0, 1) := by decide +kernel
theorem dX2_readNested_100 : decode cX2_readNested 100 = .ok (.getfield 18, 3) := by decide +kernel
theorem dX2_readNested_103 : decode cX2_readNested 103 = .ok (.iconst 3, 1) := by decide +kernel
theorem dX2_readNested_104 : decode cX2_readNested 104 = .ok (.iconst 0, 1) := by decide +kernel
theorem dX2_readNested_105 : decode cX2_readNested 105 = .ok (.iconst 0, 1) := by decide +kernel
theorem dX2_readNested_106 : decode cX2_readNested 106 = .ok (.invokevirtual 80, 3) := by decide +kernel
theorem dX2_readNested_109 : decode cX2_readNested 109 = .ok (.iconst 1, 1) := by decide +kernel
theorem dX2_readNested_110 : decode cX2_readNested 110 = .ok (.ireturn, 1) := by decide +kernel
set_option maxRecDepth 20000 in
theorem ggX2_readNumber_X2_here : GoodIn wsX2_readNumber wsX2_here := goodIn_r _ [7, 1, 8, 9, 18, 19, 20, 21, 22, 23, 24, 25] (by decide +kernel) (by decide +kernel)
set_option maxRecDepth 20000 in
theorem gX2_readNumber_X2_here : GoodIn wsX2_readNumber (wsV RX2 48 RX2 yX2_here wsX2_here) := goodIn_app (goodIn_of _ (by decide +kernel)) ggX2_readNumber_X2_here
set_option maxRecDepth 20000 in
theorem ggX2_readNumber_X2_digitOf : GoodIn wsX2_readNumber wsX2_digitOf := goodIn_r _ [12] (by decide +kernel) (by decide +kernel)
set_option maxRecDepth 20000 in
theorem gX2_readNumber_X2_digitOf : GoodIn wsX2_readNumber (va_wsS RX2 131 yX2_digitOf wsX2_digitOf) := goodIn_app (goodIn_of _ (by decide +kernel)) ggX2_readNumber_X2_digitOf
set_option maxRecDepth 20000 in
theorem ggX2_readNumber_X2_refuse : GoodIn wsX2_readNumber wsX2_refuse := goodIn_r _ [16, 17, 18, 19, 20, 21, 22, 23, 24, 25] (by decide +kernel) (by decide +kernel)
set_option maxRecDepth 20000 in
theorem gX2_readNumber_X2_refuse : GoodIn wsX2_readNumber (wsV RX2 52 RX2 yX2_refuse wsX2_refuse) := goodIn_app (goodIn_of _ (by decide +kernel)) ggX2_readNumber_X2_refuse
theorem dX2_readNumber_0 : decode cX2_readNumber 0 = .ok (.aload_n 0, 1) := by decide +kernel
theorem dX2_readNumber_1 : decode cX2_readNumber 1 = .ok (.getfield 29, 3) := by decide +kernel
theorem dX2_readNumber_4 : decode cX2_readNumber 4 = .ok (.istore 5, 2) := by decide +kernel
theorem dX2_readNumber_6 : decode cX2_readNumber 6 = .ok (.aload_n 0, 1) := by decide +kernel
theorem dX2_readNumber_7 : decode cX2_readNumber 7 = .ok (.invokevirtual 48, 3) := by decide +kernel
theorem dX2_readNumber_10 : decode cX2_readNumber 10 = .ok (.bipush 36, 2) := by decide +kernel
theorem dX2_readNumber_12 : decode cX2_readNumber 12 = .ok (.if_icmp .ne 7, 3) := by decide +kernel
theorem dX2_readNumber_15 : decode cX2_readNumber 15 = .ok (.iconst 1, 1) := by decide +kernel
theorem dX2_readNumber_16 : decode cX2_readNumber 16 = .ok (.goto 4, 3) := by decide +kernel
theorem dX2_readNumber_19 : decode cX2_readNumber 19 = .ok (.iconst 0, 1) := by decide +kernel
theorem dX2_readNumber_20 : decode cX2_readNumber 20 = .ok (.istore 6, 2) := by decide +kernel
theorem dX2_readNumber_22 : decode cX2_readNumber 22 = .ok (.iload 6, 2) := by decide +kernel
theorem dX2_readNumber_24 : decode cX2_readNumber 24 = .ok (.ifCond .eq 13, 3) := by decide +kernel
theorem dX2_readNumber_27 : decode cX2_readNumber 27 = .ok (.aload_n 0, 1) := by decide +kernel
theorem dX2_readNumber_28 : decode cX2_readNumber 28 = .ok (.dup, 1) := by decide +kernel
theorem dX2_readNumber_29 : decode cX2_readNumber 29 = .ok (.getfield 29, 3) := by decide +kernel
theorem dX2_readNumber_32 : decode cX2_readNumber 32 = .ok (.iconst 1, 1) := by decide +kernel
theorem dX2_readNumber_33 : decode cX2_readNumber 33 = .ok (.iadd, 1) := by decide +kernel
theorem dX2_readNumber_34 : decode cX2_readNumber 34 = .ok (.putfield 29, 3) := by decide +kernel
theorem dX2_readNumber_37 : decode cX2_readNumber 37 = .ok (.iload 6, 2) := by decide +kernel
theorem dX2_readNumber_39 : decode cX2_readNumber 39 = .ok (.ifCond .eq 8, 3) := by decide +kernel
theorem dX2_readNumber_42 : decode cX2_readNumber 42 = .ok (.bipush 16, 2) := by decide +kernel
theorem dX2_readNumber_44 : decode cX2_readNumber 44 = .ok (.goto 5, 3) := by decide +kernel
theorem dX2_readNumber_47 : decode cX2_readNumber 47 = .ok (.bipush 10, 2) := by decide +kernel
theorem dX2_readNumber_49 : decode cX2_readNumber 49 = .ok (.istore 7, 2) := by decide +kernel
theorem dX2_readNumber_51 : decode cX2_readNumber 51 = .ok (.iload 6, 2) := by decide +kernel
theorem dX2_readNumber_53 : decode cX2_readNumber 53 = .ok (.ifCond .eq 8, 3) := by decide +kernel
theorem dX2_readNumber_56 : decode cX2_readNumber 56 = .ok (.bipush 8, 2) := by decide +kernel
theorem dX2_readNumber_58 : decode cX2_readNumber 58 = .ok (.goto 5, 3) := by decide +kernel
theorem dX2_readNumber_61 : decode cX2_readNumber 61 = .ok (.bipush 10, 2) := by decide +kernel
theorem dX2_readNumber_63 : decode cX2_readNumber 63 = .ok (.istore 8, 2) := by decide +kernel
theorem dX2_readNumber_65 : decode cX2_readNumber 65 = .ok (.iconst 0, 1) := by decide +kernel
theorem dX2_readNumber_66 : decode cX2_readNumber 66 = .ok (.istore 9, 2) := by decide +kernel
theorem dX2_readNumber_68 : decode cX2_readNumber 68 = .ok (.aload_n 0, 1) := by decide +kernel
theorem dX2_readNumber_69 : decode cX2_readNumber 69 = .ok (.lconst 0, 1) := by decide +kernel
theorem dX2_readNumber_70 : decode cX2_readNumber 70 = .ok (.putfield 90, 3) := by decide +kernel
theorem dX2_readNumber_73 : decode cX2_readNumber 73 = .ok (.iload 9, 2) := by decide +kernel
theorem dX2_readNumber_75 : decode cX2_readNumber 75 = .ok (.sipush 480, 3) := by decide +kernel
theorem dX2_readNumber_78 : decode cX2_readNumber 78 = .ok (.if_icmp .ge 61, 3) := by decide +kernel
theorem dX2_readNumber_81 : decode cX2_readNumber 81 = .ok (.aload_n 0, 1) := by decide +kernel
theorem dX2_readNumber_82 : decode cX2_readNumber 82 = .ok (.invokevirtual 48, 3) := by decide +kernel
theorem dX2_readNumber_85 : decode cX2_readNumber 85 = .ok (.iload 7, 2) := by decide +kernel
theorem dX2_readNumber_87 : decode cX2_readNumber 87 = .ok (.invokestatic 131, 3) := by decide +kernel
theorem dX2_readNumber_90 : decode cX2_readNumber 90 = .ok (.ifCond .lt 49, 3) := by decide +kernel
theorem dX2_readNumber_93 : decode cX2_readNumber 93 = .ok (.iload 9, 2) := by decide +kernel
theorem dX2_readNumber_95 : decode cX2_readNumber 95 = .ok (.iload 8, 2) := by decide +kernel
theorem dX2_readNumber_97 : decode cX2_readNumber 97 = .ok (.if_icmp .ge 26, 3) := by decide +kernel
theorem dX2_readNumber_100 : decode cX2_readNumber 100 = .ok (.aload_n 0, 1) := by decide +kernel
theorem dX2_readNumber_101 : decode cX2_readNumber 101 = .ok (.aload_n 0, 1) := by decide +kernel
theorem dX2_readNumber_102 : decode cX2_readNumber 102 = .ok (.getfield 90, 3) := by decide +kernel
theorem dX2_readNumber_105 : decode cX2_readNumber 105 = .ok (.iload 7, 2) := by decide +kernel
theorem dX2_readNumber_107 : decode cX2_readNumber 107 = .ok (.i2l, 1) := by decide +kernel
theorem dX2_readNumber_108 : decode cX2_readNumber 108 = .ok (.lmul, 1) := by decide +kernel
theorem dX2_readNumber_109 : decode cX2_readNumber 109 = .ok (.aload_n 0, 1) := by decide +kernel
theorem dX2_readNumber_110 : decode cX2_readNumber 110 = .ok (.invokevirtual 48, 3) := by decide +kernel
theorem dX2_readNumber_113 : decode cX2_readNumber 113 = .ok (.iload 7, 2) := by decide +kernel
theorem dX2_readNumber_115 : decode cX2_readNumber 115 = .ok (.invokestatic 131, 3) := by decide +kernel
theorem dX2_readNumber_118 : decode cX2_readNumber 118 = .ok (.i2l, 1) := by decide +kernel
theorem dX2_readNumber_119 : decode cX2_readNumber 119 = .ok (.ladd, 1) := by decide +kernel
theorem dX2_readNumber_120 : decode cX2_readNumber 120 = .ok (.putfield 90, 3) := by decide +kernel
theorem dX2_readNumber_123 : decode cX2_readNumber 123 = .ok (.iinc 9 1, 3) := by decide +kernel
theorem dX2_readNumber_126 : decode cX2_readNumber 126 = .ok (.aload_n 0, 1) := by decide +kernel
theorem dX2_readNumber_127 : decode cX2_readNumber 127 = .ok (.dup, 1) := by decide +kernel
theorem dX2_readNumber_128 : decode cX2_readNumber 128 = .ok (.getfield 29, 3) := by decide +kernel
theorem dX2_readNumber_131 : decode cX2_readNumber 131 = .ok (.iconst 1, 1) := by decide +kernel
theorem dX2_readNumber_132 : decode cX2_readNumber 132 = .ok (.iadd, 1) := by decide +kernel
theorem dX2_readNumber_133 : decode cX2_readNumber 133 = .ok (.putfield 29, 3) := by decide +kernel
theorem dX2_readNumber_136 : decode cX2_readNumber 136 = .ok (.goto (-63), 3) := by decide +kernel
theorem dX2_readNumber_139 : decode cX2_readNumber 139 = .ok (.iload 9, 2) := by decide +kernel
theorem dX2_readNumber_141 : decode cX2_readNumber 141 = .ok (.ifCond .ne 12, 3) := by decide +kernel
theorem dX2_readNumber_144 : decode cX2_readNumber 144 = .ok (.aload_n 0, 1) := by decide +kernel
theorem dX2_readNumber_145 : decode cX2_readNumber 145 = .ok (.aload_n 0, 1) := by decide +kernel
theorem dX2_readNumber_146 : decode cX2_readNumber 146 = .ok (.getfield 29, 3) := by decide +kernel
theorem dX2_readNumber_149 : decode cX2_readNumber 149 = .ok (.invokevirtual 52, 3) := by decide +kernel
theorem dX2_readNumber_152 : decode cX2_readNumber 152 = .ok (.ireturn, 1) := by decide +kernel
theorem dX2_readNumber_153 : decode cX2_readNumber 153 = .ok (.iload 9, 2) := by decide +kernel
theorem dX2_readNumber_155 : decode cX2_readNumber 155 = .ok (.iload 8, 2) := by decide +kernel
theorem dX2_readNumber_157 : decode cX2_readNumber 157 = .ok (.if_icmp .gt 21, 3) := by decide +kernel
theorem dX2_readNumber_160 : decode cX2_readNumber 160 = .ok (.aload_n 0, 1) := by decide +kernel
theorem dX2_readNumber_161 : decode cX2_readNumber 161 = .ok (.getfield 90, 3) := by decide +kernel
theorem dX2_readNumber_164 : decode cX2_readNumber 164 = .ok (.lload_n 1, 1) := by decide +kernel
theorem dX2_readNumber_165 : decode cX2_readNumber 165 = .ok (.lcmp, 1) := by decide +kernel
theorem dX2_readNumber_166 : decode cX2_readNumber 166 = .ok (.ifCond .lt 12, 3) := by decide +kernel
theorem dX2_readNumber_169 : decode cX2_readNumber 169 = .ok (.aload_n 0, 1) := by decide +kernel
theorem dX2_readNumber_170 : decode cX2_readNumber 170 = .ok (.getfield 90, 3) := by decide +kernel
theorem dX2_readNumber_173 : decode cX2_readNumber 173 = .ok (.lload_n 3, 1) := by decide +kernel
theorem dX2_readNumber_174 : decode cX2_readNumber 174 = .ok (.lcmp, 1) := by decide +kernel
theorem dX2_readNumber_175 : decode cX2_readNumber 175 = .ok (.ifCond .le 10, 3) := by decide +kernel
theorem dX2_readNumber_178 : decode cX2_readNumber 178 = .ok (.aload_n 0, 1) := by decide +kernel
theorem dX2_readNumber_179 : decode cX2_readNumber 179 = .ok (.iload 5, 2) := by decide +kernel
theorem dX2_readNumber_181 : decode cX2_readNumber 181 = .ok (.invokevirtual 52, 3) := by decide +kernel
theorem dX2_readNumber_184 : decode cX2_readNumber 184 = .ok (.ireturn, 1) := by decide +kernel
theorem dX2_readNumber_185 : decode cX2_readNumber 185 = .ok (.iconst 1, 1) := by decide +kernel
theorem dX2_readNumber_186 : decode cX2_readNumber 186 = .ok (.ireturn, 1) := by decide +kernel
set_option maxRecDepth 20000 in
theorem ggX2_freeName_X2_here : GoodIn wsX2_freeName wsX2_here := goodIn_r _ [6, 7, 8, 9, 13, 14, 15, 16, 17, 18, 19, 20] (by decide +kernel) (by decide +kernel)
set_option maxRecDepth 20000 in
theorem gX2_freeName_X2_here : GoodIn wsX2_freeName (wsV RX2 48 RX2 yX2_here wsX2_here) := goodIn_app (goodIn_of _ (by decide +kernel)) ggX2_freeName_X2_here
set_option maxRecDepth 20000 in
theorem ggX2_freeName_X2_nameOf : GoodIn wsX2_freeName wsX2_nameOf := goodIn_r _ [12] (by decide +kernel) (by decide +kernel)
set_option maxRecDepth 20000 in
theorem gX2_freeName_X2_nameOf : GoodIn wsX2_freeName (va_wsS RX2 122 yX2_nameOf wsX2_nameOf) := goodIn_app (goodIn_of _ (by decide +kernel)) ggX2_freeName_X2_nameOf
theorem dX2_freeName_0 : decode cX2_freeName 0 = .ok (.aload_n 0, 1) := by decide +kernel
theorem dX2_freeName_1 : decode cX2_freeName 1 = .ok (.invokevirtual 48, 3) := by decide +kernel
theorem dX2_freeName_4 : decode cX2_freeName 4 = .ok (.invokestatic 122, 3) := by decide +kernel
theorem dX2_freeName_7 : decode cX2_freeName 7 = .ok (.istore_n 1, 1) := by decide +kernel
theorem dX2_freeName_8 : decode cX2_freeName 8 = .ok (.iload_n 1, 1) := by decide +kernel
theorem dX2_freeName_9 : decode cX2_freeName 9 = .ok (.ifCond .lt 18, 3) := by decide +kernel
theorem dX2_freeName_12 : decode cX2_freeName 12 = .ok (.aload_n 0, 1) := by decide +kernel
theorem dX2_freeName_13 : decode cX2_freeName 13 = .ok (.getfield 35, 3) := by decide +kernel
theorem dX2_freeName_16 : decode cX2_freeName 16 = .ok (.iload_n 1, 1) := by decide +kernel
theorem dX2_freeName_17 : decode cX2_freeName 17 = .ok (.ishr, 1) := by decide +kernel
theorem dX2_freeName_18 : decode cX2_freeName 18 = .ok (.iconst 1, 1) := by decide +kernel
theorem dX2_freeName_19 : decode cX2_freeName 19 = .ok (.iand, 1) := by decide +kernel
theorem dX2_freeName_20 : decode cX2_freeName 20 = .ok (.ifCond .ne 7, 3) := by decide +kernel
theorem dX2_freeName_23 : decode cX2_freeName 23 = .ok (.iload_n 1, 1) := by decide +kernel
theorem dX2_freeName_24 : decode cX2_freeName 24 = .ok (.goto 4, 3) := by decide +kernel
theorem dX2_freeName_27 : decode cX2_freeName 27 = .ok (.iconst (-1), 1) := by decide +kernel
theorem dX2_freeName_28 : decode cX2_freeName 28 = .ok (.ireturn, 1) := by decide +kernel
theorem dX2_nameOf_0 : decode cX2_nameOf 0 = .ok (.iload_n 0, 1) := by decide +kernel
theorem dX2_nameOf_1 : decode cX2_nameOf 1 = .ok (.bipush 97, 2) := by decide +kernel
theorem dX2_nameOf_3 : decode cX2_nameOf 3 = .ok (.if_icmp .lt 16, 3) := by decide +kernel
theorem dX2_nameOf_6 : decode cX2_nameOf 6 = .ok (.iload_n 0, 1) := by decide +kernel
theorem dX2_nameOf_7 : decode cX2_nameOf 7 = .ok (.bipush 122, 2) := by decide +kernel
theorem dX2_nameOf_9 : decode cX2_nameOf 9 = .ok (.if_icmp .gt 10, 3) := by decide +kernel
theorem dX2_nameOf_12 : decode cX2_nameOf 12 = .ok (.iload_n 0, 1) := by decide +kernel
theorem dX2_nameOf_13 : decode cX2_nameOf 13 = .ok (.bipush 97, 2) := by decide +kernel
theorem dX2_nameOf_15 : decode cX2_nameOf 15 = .ok (.isub, 1) := by decide +kernel
theorem dX2_nameOf_16 : decode cX2_nameOf 16 = .ok (.goto 4, 3) := by decide +kernel
theorem dX2_nameOf_19 : decode cX2_nameOf 19 = .ok (.iconst (-1), 1) := by decide +kernel
theorem dX2_nameOf_20 : decode cX2_nameOf 20 = .ok (.ireturn, 1) := by decide +kernel
theorem dX2_digitOf_0 : decode cX2_digitOf 0 = .ok (.iload_n 0, 1) := by decide +kernel
theorem dX2_digitOf_1 : decode cX2_digitOf 1 = .ok (.bipush 48, 2) := by decide +kernel
theorem dX2_digitOf_3 : decode cX2_digitOf 3 = .ok (.if_icmp .lt 14, 3) := by decide +kernel
theorem dX2_digitOf_6 : decode cX2_digitOf 6 = .ok (.iload_n 0, 1) := by decide +kernel
theorem dX2_digitOf_7 : decode cX2_digitOf 7 = .ok (.bipush 57, 2) := by decide +kernel
theorem dX2_digitOf_9 : decode cX2_digitOf 9 = .ok (.if_icmp .gt 8, 3) := by decide +kernel
theorem dX2_digitOf_12 : decode cX2_digitOf 12 = .ok (.iload_n 0, 1) := by decide +kernel
theorem dX2_digitOf_13 : decode cX2_digitOf 13 = .ok (.bipush 48, 2) := by decide +kernel
theorem dX2_digitOf_15 : decode cX2_digitOf 15 = .ok (.isub, 1) := by decide +kernel
theorem dX2_digitOf_16 : decode cX2_digitOf 16 = .ok (.ireturn, 1) := by decide +kernel
theorem dX2_digitOf_17 : decode cX2_digitOf 17 = .ok (.iload_n 1, 1) := by decide +kernel
theorem dX2_digitOf_18 : decode cX2_digitOf 18 = .ok (.bipush 16, 2) := by decide +kernel
theorem dX2_digitOf_20 : decode cX2_digitOf 20 = .ok (.if_icmp .ne 25, 3) := by decide +kernel
theorem dX2_digitOf_23 : decode cX2_digitOf 23 = .ok (.iload_n 0, 1) := by decide +kernel
theorem dX2_digitOf_24 : decode cX2_digitOf 24 = .ok (.bipush 97, 2) := by decide +kernel
theorem dX2_digitOf_26 : decode cX2_digitOf 26 = .ok (.if_icmp .lt 19, 3) := by decide +kernel
theorem dX2_digitOf_29 : decode cX2_digitOf 29 = .ok (.iload_n 0, 1) := by decide +kernel
theorem dX2_digitOf_30 : decode cX2_digitOf 30 = .ok (.bipush 102, 2) := by decide +kernel
theorem dX2_digitOf_32 : decode cX2_digitOf 32 = .ok (.if_icmp .gt 13, 3) := by decide +kernel
theorem dX2_digitOf_35 : decode cX2_digitOf 35 = .ok (.iload_n 0, 1) := by decide +kernel
theorem dX2_digitOf_36 : decode cX2_digitOf 36 = .ok (.bipush 97, 2) := by decide +kernel
theorem dX2_digitOf_38 : decode cX2_digitOf 38 = .ok (.isub, 1) := by decide +kernel
theorem dX2_digitOf_39 : decode cX2_digitOf 39 = .ok (.bipush 10, 2) := by decide +kernel
theorem dX2_digitOf_41 : decode cX2_digitOf 41 = .ok (.iadd, 1) := by decide +kernel
theorem dX2_digitOf_42 : decode cX2_digitOf 42 = .ok (.goto 4, 3) := by decide +kernel
theorem dX2_digitOf_45 : decode cX2_digitOf 45 = .ok (.iconst (-1), 1) := by decide +kernel
theorem dX2_digitOf_46 : decode cX2_digitOf 46 = .ok (.ireturn, 1) := by decide +kernel
theorem dX2_isOperator_0 : decode cX2_isOperator 0 = .ok (.iload_n 0, 1) := by decide +kernel
theorem dX2_isOperator_1 : decode cX2_isOperator 1 = .ok (.lookupswitch 61 #[(38, 59), (42, 59), (43, 59), (45, 59), (94, 59), (124, 59)], 59) := by decide +kernel
theorem dX2_isOperator_60 : decode cX2_isOperator 60 = .ok (.iconst 1, 1) := by decide +kernel
theorem dX2_isOperator_61 : decode cX2_isOperator 61 = .ok (.ireturn, 1) := by decide +kernel
theorem dX2_isOperator_62 : decode cX2_isOperator 62 = .ok (.iconst 0, 1) := by decide +kernel
theorem dX2_isOperator_63 : decode cX2_isOperator 63 = .ok (.ireturn, 1) := by decide +kernel
set_option maxRecDepth 20000 in
theorem ggX3_init_X2_init : GoodIn wsX3_init wsX2_init := goodIn_r _ [18, 19, 2, 3, 20, 21, 22, 13, 14, 23, 24, 25, 26, 27, 28, 29, 30, 39, 40, 41, 42, 43, 44, 45, 46, 59, 60, 61, 62, 63, 64] (by decide +kernel) (by decide +kernel)
set_option maxRecDepth 20000 in
theorem gX3_init_X2_init_n9 : GoodIn wsX3_init (wsX2_init) := ggX3_init_X2_init
set_option maxRecDepth 20000 in
theorem ggX3_init_X1_init : GoodIn wsX3_init wsX1_init := goodIn_r _ [32, 33, 2, 3, 27, 34, 35, 36, 37, 38, 51, 52, 53, 54, 55, 56, 57, 58] (by decide +kernel) (by decide +kernel)
set_option maxRecDepth 20000 in
theorem gX3_init_X1_init_n18 : GoodIn wsX3_init (wsX1_init) := ggX3_init_X1_init
set_option maxRecDepth 20000 in
theorem ggX3_init_X0_init : GoodIn wsX3_init wsX0_init := goodIn_r _ [25, 26, 2, 3, 27, 28, 29, 30, 59, 60, 61, 62, 63, 64] (by decide +kernel) (by decide +kernel)
set_option maxRecDepth 20000 in
theorem gX3_init_X0_init_n25 : GoodIn wsX3_init (wsX0_init) := ggX3_init_X0_init
theorem dX3_init_0 : decode cX3_init 0 = .ok (.aload_n 0, 1) := by decide +kernel
theorem dX3_init_1 : decode cX3_init 1 = .ok (.invokespecial 1, 3) := by decide +kernel
theorem dX3_init_4 : decode cX3_init 4 = .ok (.aload_n 0, 1) := by decide +kernel
theorem dX3_init_5 : decode cX3_init 5 = .ok (.new 7, 3) := by decide +kernel
theorem dX3_init_8 : decode cX3_init 8 = .ok (.dup, 1) := by decide +kernel
theorem dX3_init_9 : decode cX3_init 9 = .ok (.invokespecial 9, 3) := by decide +kernel
theorem dX3_init_12 : decode cX3_init 12 = .ok (.putfield 10, 3) := by decide +kernel
theorem dX3_init_15 : decode cX3_init 15 = .ok (.aload_n 0, 1) := by decide +kernel
theorem dX3_init_16 : decode cX3_init 16 = .ok (.new 16, 3) := by decide +kernel
theorem dX3_init_19 : decode cX3_init 19 = .ok (.dup, 1) := by decide +kernel
theorem dX3_init_20 : decode cX3_init 20 = .ok (.invokespecial 18, 3) := by decide +kernel
theorem dX3_init_23 : decode cX3_init 23 = .ok (.putfield 19, 3) := by decide +kernel
theorem dX3_init_26 : decode cX3_init 26 = .ok (.aload_n 0, 1) := by decide +kernel
theorem dX3_init_27 : decode cX3_init 27 = .ok (.new 23, 3) := by decide +kernel
theorem dX3_init_30 : decode cX3_init 30 = .ok (.dup, 1) := by decide +kernel
theorem dX3_init_31 : decode cX3_init 31 = .ok (.invokespecial 25, 3) := by decide +kernel
theorem dX3_init_34 : decode cX3_init 34 = .ok (.putfield 26, 3) := by decide +kernel
theorem dX3_init_37 : decode cX3_init 37 = .ok (.aload_n 0, 1) := by decide +kernel
theorem dX3_init_38 : decode cX3_init 38 = .ok (.iconst 0, 1) := by decide +kernel
theorem dX3_init_39 : decode cX3_init 39 = .ok (.putfield 30, 3) := by decide +kernel
theorem dX3_init_42 : decode cX3_init 42 = .ok (.return_, 1) := by decide +kernel
set_option maxRecDepth 20000 in
theorem ggX3_write_X3_byteOf : GoodIn wsX3_write wsX3_byteOf := goodIn_r _ [5] (by decide +kernel) (by decide +kernel)
set_option maxRecDepth 20000 in
theorem gX3_write_X3_byteOf : GoodIn wsX3_write (va_wsS RX3 34 yX3_byteOf wsX3_byteOf) := goodIn_app (goodIn_of _ (by decide +kernel)) ggX3_write_X3_byteOf
set_option maxRecDepth 20000 in
theorem ggX3_write_X2_append : GoodIn wsX3_write wsX2_append := goodIn_r _ [9, 10, 11, 16, 17, 18, 19, 20, 21, 22, 23] (by decide +kernel) (by decide +kernel)
set_option maxRecDepth 20000 in
theorem gX3_write_X2_append_n42 : GoodIn wsX3_write (wsX2_append) := ggX3_write_X2_append
theorem dX3_write_0 : decode cX3_write 0 = .ok (.iconst 0, 1) := by decide +kernel
theorem dX3_write_1 : decode cX3_write 1 = .ok (.istore_n 3, 1) := by decide +kernel
theorem dX3_write_2 : decode cX3_write 2 = .ok (.iconst 0, 1) := by decide +kernel
theorem dX3_write_3 : decode cX3_write 3 = .ok (.istore 4, 2) := by decide +kernel
theorem dX3_write_5 : decode cX3_write 5 = .ok (.iload 4, 2) := by decide +kernel
theorem dX3_write_7 : decode cX3_write 7 = .ok (.bipush 8, 2) := by decide +kernel
theorem dX3_write_9 : decode cX3_write 9 = .ok (.if_icmp .ge 41, 3) := by decide +kernel
theorem dX3_write_12 : decode cX3_write 12 = .ok (.lload_n 1, 1) := by decide +kernel
theorem dX3_write_13 : decode cX3_write 13 = .ok (.iload 4, 2) := by decide +kernel
theorem dX3_write_15 : decode cX3_write 15 = .ok (.invokestatic 34, 3) := by decide +kernel
theorem dX3_write_18 : decode cX3_write 18 = .ok (.istore 5, 2) := by decide +kernel
theorem dX3_write_20 : decode cX3_write 20 = .ok (.iload 5, 2) := by decide +kernel
theorem dX3_write_22 : decode cX3_write 22 = .ok (.ifCond .eq 22, 3) := by decide +kernel
theorem dX3_write_25 : decode cX3_write 25 = .ok (.iload 5, 2) := by decide +kernel
theorem dX3_write_27 : decode cX3_write 27 = .ok (.bipush 33, 2) := by decide +kernel
theorem dX3_write_29 : decode cX3_write 29 = .ok (.if_icmp .lt 10, 3) := by decide +kernel
theorem dX3_write_32 : decode cX3_write 32 = .ok (.iload 5, 2) := by decide +kernel
theorem dX3_write_34 : decode cX3_write 34 = .ok (.bipush 126, 2) := by decide +kernel
theorem dX3_write_36 : decode cX3_write 36 = .ok (.if_icmp .le 5, 3) := by decide +kernel
theorem dX3_write_39 : decode cX3_write 39 = .ok (.iconst 0, 1) := by decide +kernel
theorem dX3_write_40 : decode cX3_write 40 = .ok (.ireturn, 1) := by decide +kernel
theorem dX3_write_41 : decode cX3_write 41 = .ok (.iinc 3 1, 3) := by decide +kernel
theorem dX3_write_44 : decode cX3_write 44 = .ok (.iinc 4 1, 3) := by decide +kernel
theorem dX3_write_47 : decode cX3_write 47 = .ok (.goto (-42), 3) := by decide +kernel
theorem dX3_write_50 : decode cX3_write 50 = .ok (.iload_n 3, 1) := by decide +kernel
theorem dX3_write_51 : decode cX3_write 51 = .ok (.sipush 480, 3) := by decide +kernel
theorem dX3_write_54 : decode cX3_write 54 = .ok (.aload_n 0, 1) := by decide +kernel
theorem dX3_write_55 : decode cX3_write 55 = .ok (.getfield 10, 3) := by decide +kernel
theorem dX3_write_58 : decode cX3_write 58 = .ok (.getfield 38, 3) := by decide +kernel
theorem dX3_write_61 : decode cX3_write 61 = .ok (.isub, 1) := by decide +kernel
theorem dX3_write_62 : decode cX3_write 62 = .ok (.if_icmp .le 5, 3) := by decide +kernel
theorem dX3_write_65 : decode cX3_write 65 = .ok (.iconst 0, 1) := by decide +kernel
theorem dX3_write_66 : decode cX3_write 66 = .ok (.ireturn, 1) := by decide +kernel
theorem dX3_write_67 : decode cX3_write 67 = .ok (.iconst 0, 1) := by decide +kernel
theorem dX3_write_68 : decode cX3_write 68 = .ok (.istore 4, 2) := by decide +kernel
theorem dX3_write_70 : decode cX3_write 70 = .ok (.iload 4, 2) := by decide +kernel
theorem dX3_write_72 : decode cX3_write 72 = .ok (.bipush 8, 2) := by decide +kernel
theorem dX3_write_74 : decode cX3_write 74 = .ok (.if_icmp .ge 31, 3) := by decide +kernel
theorem dX3_write_77 : decode cX3_write 77 = .ok (.lload_n 1, 1) := by decide +kernel
