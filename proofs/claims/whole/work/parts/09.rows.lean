theorem dX4_factor_114 : decode cX4_factor 114 = .ok (.putfield 68, 3) := by decide +kernel
theorem dX4_factor_117 : decode cX4_factor 117 = .ok (.aload_n 0, 1) := by decide +kernel
theorem dX4_factor_118 : decode cX4_factor 118 = .ok (.iconst 1, 1) := by decide +kernel
theorem dX4_factor_119 : decode cX4_factor 119 = .ok (.iload_n 1, 1) := by decide +kernel
theorem dX4_factor_120 : decode cX4_factor 120 = .ok (.bipush 97, 2) := by decide +kernel
theorem dX4_factor_122 : decode cX4_factor 122 = .ok (.isub, 1) := by decide +kernel
theorem dX4_factor_123 : decode cX4_factor 123 = .ok (.invokevirtual 106, 3) := by decide +kernel
theorem dX4_factor_126 : decode cX4_factor 126 = .ok (.aload_n 0, 1) := by decide +kernel
theorem dX4_factor_127 : decode cX4_factor 127 = .ok (.iconst 0, 1) := by decide +kernel
theorem dX4_factor_128 : decode cX4_factor 128 = .ok (.invokevirtual 141, 3) := by decide +kernel
theorem dX4_factor_131 : decode cX4_factor 131 = .ok (.goto 52, 3) := by decide +kernel
theorem dX4_factor_134 : decode cX4_factor 134 = .ok (.iload_n 1, 1) := by decide +kernel
theorem dX4_factor_135 : decode cX4_factor 135 = .ok (.invokestatic 86, 3) := by decide +kernel
theorem dX4_factor_138 : decode cX4_factor 138 = .ok (.ifCond .ne 9, 3) := by decide +kernel
theorem dX4_factor_141 : decode cX4_factor 141 = .ok (.iload_n 1, 1) := by decide +kernel
theorem dX4_factor_142 : decode cX4_factor 142 = .ok (.bipush 36, 2) := by decide +kernel
theorem dX4_factor_144 : decode cX4_factor 144 = .ok (.if_icmp .ne 29, 3) := by decide +kernel
theorem dX4_factor_147 : decode cX4_factor 147 = .ok (.aload_n 0, 1) := by decide +kernel
theorem dX4_factor_148 : decode cX4_factor 148 = .ok (.lconst 0, 1) := by decide +kernel
theorem dX4_factor_149 : decode cX4_factor 149 = .ok (.ldc2_w 145, 3) := by decide +kernel
theorem dX4_factor_152 : decode cX4_factor 152 = .ok (.invokevirtual 130, 3) := by decide +kernel
theorem dX4_factor_155 : decode cX4_factor 155 = .ok (.aload_n 0, 1) := by decide +kernel
theorem dX4_factor_156 : decode cX4_factor 156 = .ok (.iconst 0, 1) := by decide +kernel
theorem dX4_factor_157 : decode cX4_factor 157 = .ok (.aload_n 0, 1) := by decide +kernel
theorem dX4_factor_158 : decode cX4_factor 158 = .ok (.getfield 82, 3) := by decide +kernel
theorem dX4_factor_161 : decode cX4_factor 161 = .ok (.l2i, 1) := by decide +kernel
theorem dX4_factor_162 : decode cX4_factor 162 = .ok (.invokevirtual 106, 3) := by decide +kernel
theorem dX4_factor_165 : decode cX4_factor 165 = .ok (.aload_n 0, 1) := by decide +kernel
theorem dX4_factor_166 : decode cX4_factor 166 = .ok (.iconst 1, 1) := by decide +kernel
theorem dX4_factor_167 : decode cX4_factor 167 = .ok (.invokevirtual 141, 3) := by decide +kernel
theorem dX4_factor_170 : decode cX4_factor 170 = .ok (.goto 13, 3) := by decide +kernel
theorem dX4_factor_173 : decode cX4_factor 173 = .ok (.aload_n 0, 1) := by decide +kernel
theorem dX4_factor_174 : decode cX4_factor 174 = .ok (.aload_n 0, 1) := by decide +kernel
theorem dX4_factor_175 : decode cX4_factor 175 = .ok (.getfield 68, 3) := by decide +kernel
theorem dX4_factor_178 : decode cX4_factor 178 = .ok (.invokevirtual 78, 3) := by decide +kernel
theorem dX4_factor_181 : decode cX4_factor 181 = .ok (.iconst 2, 1) := by decide +kernel
theorem dX4_factor_182 : decode cX4_factor 182 = .ok (.ireturn, 1) := by decide +kernel
theorem dX4_factor_183 : decode cX4_factor 183 = .ok (.aload_n 0, 1) := by decide +kernel
theorem dX4_factor_184 : decode cX4_factor 184 = .ok (.invokevirtual 147, 3) := by decide +kernel
theorem dX4_factor_187 : decode cX4_factor 187 = .ok (.iconst 2, 1) := by decide +kernel
theorem dX4_factor_188 : decode cX4_factor 188 = .ok (.ireturn, 1) := by decide +kernel
set_option maxRecDepth 20000 in
theorem ggX4_whole_X4_step : GoodIn wsX4_whole wsX4_step := goodIn_r _ [11, 12, 13, 14, 15, 16, 17, 18, 19, 20, 21, 22, 23, 24, 25, 26, 27, 28, 29, 30, 31, 32, 33, 34, 35, 36, 37, 38, 39, 40, 41, 42, 43, 44, 45, 46, 47] (by decide +kernel) (by decide +kernel)
set_option maxRecDepth 20000 in
theorem gX4_whole_X4_step : GoodIn wsX4_whole (wsV RX4 106 RX4 yX4_step wsX4_step) := goodIn_app (goodIn_of _ (by decide +kernel)) ggX4_whole_X4_step
theorem dX4_whole_0 : decode cX4_whole 0 = .ok (.aload_n 0, 1) := by decide +kernel
theorem dX4_whole_1 : decode cX4_whole 1 = .ok (.getfield 97, 3) := by decide +kernel
theorem dX4_whole_4 : decode cX4_whole 4 = .ok (.ifCond .le 79, 3) := by decide +kernel
theorem dX4_whole_7 : decode cX4_whole 7 = .ok (.aload_n 0, 1) := by decide +kernel
theorem dX4_whole_8 : decode cX4_whole 8 = .ok (.getfield 37, 3) := by decide +kernel
theorem dX4_whole_11 : decode cX4_whole 11 = .ok (.aload_n 0, 1) := by decide +kernel
theorem dX4_whole_12 : decode cX4_whole 12 = .ok (.getfield 97, 3) := by decide +kernel
theorem dX4_whole_15 : decode cX4_whole 15 = .ok (.iconst 1, 1) := by decide +kernel
theorem dX4_whole_16 : decode cX4_whole 16 = .ok (.isub, 1) := by decide +kernel
theorem dX4_whole_17 : decode cX4_whole 17 = .ok (.iaload, 1) := by decide +kernel
theorem dX4_whole_18 : decode cX4_whole 18 = .ok (.bipush 6, 2) := by decide +kernel
theorem dX4_whole_20 : decode cX4_whole 20 = .ok (.if_icmp .ne 63, 3) := by decide +kernel
theorem dX4_whole_23 : decode cX4_whole 23 = .ok (.aload_n 0, 1) := by decide +kernel
theorem dX4_whole_24 : decode cX4_whole 24 = .ok (.dup, 1) := by decide +kernel
theorem dX4_whole_25 : decode cX4_whole 25 = .ok (.getfield 97, 3) := by decide +kernel
theorem dX4_whole_28 : decode cX4_whole 28 = .ok (.iconst 1, 1) := by decide +kernel
theorem dX4_whole_29 : decode cX4_whole 29 = .ok (.isub, 1) := by decide +kernel
theorem dX4_whole_30 : decode cX4_whole 30 = .ok (.putfield 97, 3) := by decide +kernel
theorem dX4_whole_33 : decode cX4_whole 33 = .ok (.aload_n 0, 1) := by decide +kernel
theorem dX4_whole_34 : decode cX4_whole 34 = .ok (.dup, 1) := by decide +kernel
theorem dX4_whole_35 : decode cX4_whole 35 = .ok (.getfield 138, 3) := by decide +kernel
theorem dX4_whole_38 : decode cX4_whole 38 = .ok (.iconst 1, 1) := by decide +kernel
theorem dX4_whole_39 : decode cX4_whole 39 = .ok (.isub, 1) := by decide +kernel
theorem dX4_whole_40 : decode cX4_whole 40 = .ok (.putfield 138, 3) := by decide +kernel
theorem dX4_whole_43 : decode cX4_whole 43 = .ok (.aload_n 0, 1) := by decide +kernel
theorem dX4_whole_44 : decode cX4_whole 44 = .ok (.iconst 3, 1) := by decide +kernel
theorem dX4_whole_45 : decode cX4_whole 45 = .ok (.iconst 0, 1) := by decide +kernel
theorem dX4_whole_46 : decode cX4_whole 46 = .ok (.invokevirtual 106, 3) := by decide +kernel
theorem dX4_whole_49 : decode cX4_whole 49 = .ok (.aload_n 0, 1) := by decide +kernel
theorem dX4_whole_50 : decode cX4_whole 50 = .ok (.aload_n 0, 1) := by decide +kernel
theorem dX4_whole_51 : decode cX4_whole 51 = .ok (.getfield 43, 3) := by decide +kernel
theorem dX4_whole_54 : decode cX4_whole 54 = .ok (.aload_n 0, 1) := by decide +kernel
theorem dX4_whole_55 : decode cX4_whole 55 = .ok (.getfield 100, 3) := by decide +kernel
theorem dX4_whole_58 : decode cX4_whole 58 = .ok (.iconst 1, 1) := by decide +kernel
theorem dX4_whole_59 : decode cX4_whole 59 = .ok (.isub, 1) := by decide +kernel
theorem dX4_whole_60 : decode cX4_whole 60 = .ok (.baload, 1) := by decide +kernel
theorem dX4_whole_61 : decode cX4_whole 61 = .ok (.ifCond .eq 10, 3) := by decide +kernel
theorem dX4_whole_64 : decode cX4_whole 64 = .ok (.aload_n 0, 1) := by decide +kernel
theorem dX4_whole_65 : decode cX4_whole 65 = .ok (.getfield 150, 3) := by decide +kernel
theorem dX4_whole_68 : decode cX4_whole 68 = .ok (.goto 9, 3) := by decide +kernel
theorem dX4_whole_71 : decode cX4_whole 71 = .ok (.aload_n 0, 1) := by decide +kernel
theorem dX4_whole_72 : decode cX4_whole 72 = .ok (.getfield 150, 3) := by decide +kernel
theorem dX4_whole_75 : decode cX4_whole 75 = .ok (.iconst 1, 1) := by decide +kernel
theorem dX4_whole_76 : decode cX4_whole 76 = .ok (.iadd, 1) := by decide +kernel
theorem dX4_whole_77 : decode cX4_whole 77 = .ok (.putfield 150, 3) := by decide +kernel
theorem dX4_whole_80 : decode cX4_whole 80 = .ok (.goto (-80), 3) := by decide +kernel
theorem dX4_whole_83 : decode cX4_whole 83 = .ok (.return_, 1) := by decide +kernel
theorem dX4_isOperator_0 : decode cX4_isOperator 0 = .ok (.iload_n 0, 1) := by decide +kernel
theorem dX4_isOperator_1 : decode cX4_isOperator 1 = .ok (.bipush 43, 2) := by decide +kernel
theorem dX4_isOperator_3 : decode cX4_isOperator 3 = .ok (.if_icmp .eq 33, 3) := by decide +kernel
theorem dX4_isOperator_6 : decode cX4_isOperator 6 = .ok (.iload_n 0, 1) := by decide +kernel
theorem dX4_isOperator_7 : decode cX4_isOperator 7 = .ok (.bipush 45, 2) := by decide +kernel
theorem dX4_isOperator_9 : decode cX4_isOperator 9 = .ok (.if_icmp .eq 27, 3) := by decide +kernel
theorem dX4_isOperator_12 : decode cX4_isOperator 12 = .ok (.iload_n 0, 1) := by decide +kernel
theorem dX4_isOperator_13 : decode cX4_isOperator 13 = .ok (.bipush 42, 2) := by decide +kernel
theorem dX4_isOperator_15 : decode cX4_isOperator 15 = .ok (.if_icmp .eq 21, 3) := by decide +kernel
theorem dX4_isOperator_18 : decode cX4_isOperator 18 = .ok (.iload_n 0, 1) := by decide +kernel
theorem dX4_isOperator_19 : decode cX4_isOperator 19 = .ok (.bipush 38, 2) := by decide +kernel
theorem dX4_isOperator_21 : decode cX4_isOperator 21 = .ok (.if_icmp .eq 15, 3) := by decide +kernel
theorem dX4_isOperator_24 : decode cX4_isOperator 24 = .ok (.iload_n 0, 1) := by decide +kernel
theorem dX4_isOperator_25 : decode cX4_isOperator 25 = .ok (.bipush 124, 2) := by decide +kernel
theorem dX4_isOperator_27 : decode cX4_isOperator 27 = .ok (.if_icmp .eq 9, 3) := by decide +kernel
theorem dX4_isOperator_30 : decode cX4_isOperator 30 = .ok (.iload_n 0, 1) := by decide +kernel
theorem dX4_isOperator_31 : decode cX4_isOperator 31 = .ok (.bipush 94, 2) := by decide +kernel
theorem dX4_isOperator_33 : decode cX4_isOperator 33 = .ok (.if_icmp .ne 7, 3) := by decide +kernel
theorem dX4_isOperator_36 : decode cX4_isOperator 36 = .ok (.iconst 1, 1) := by decide +kernel
theorem dX4_isOperator_37 : decode cX4_isOperator 37 = .ok (.goto 4, 3) := by decide +kernel
theorem dX4_isOperator_40 : decode cX4_isOperator 40 = .ok (.iconst 0, 1) := by decide +kernel
theorem dX4_isOperator_41 : decode cX4_isOperator 41 = .ok (.ireturn, 1) := by decide +kernel
set_option maxRecDepth 20000 in
theorem ggX4_behind_X4_here : GoodIn wsX4_behind wsX4_here := goodIn_r _ [19, 1, 20, 21, 63, 64, 65, 66, 67, 68, 69, 70, 71, 72, 73, 74, 75, 76, 77, 78, 79, 80, 81, 82, 83, 84, 85, 86, 87, 88, 89, 90, 91, 92, 93, 94, 95] (by decide +kernel) (by decide +kernel)
set_option maxRecDepth 20000 in
theorem gX4_behind_X4_here : GoodIn wsX4_behind (wsV RX4 74 RX4 yX4_here wsX4_here) := goodIn_app (goodIn_of _ (by decide +kernel)) ggX4_behind_X4_here
set_option maxRecDepth 20000 in
theorem ggX4_behind_X4_readNumber : GoodIn wsX4_behind wsX4_readNumber := goodIn_r _ [25, 1, 3, 26, 27, 15, 16, 17, 18, 19, 20, 21, 28, 29, 30, 31, 32, 33, 34, 35, 63, 64, 65, 66, 67, 68, 69, 70, 71, 72, 73, 74, 75, 76, 77, 78, 79, 80, 81, 82, 83, 84, 85, 86, 87, 88, 89, 90, 91, 92, 93, 94, 95] (by decide +kernel) (by decide +kernel)
set_option maxRecDepth 20000 in
theorem gX4_behind_X4_readNumber : GoodIn wsX4_behind (wsV RX4 130 RX4 yX4_readNumber wsX4_readNumber) := goodIn_app (goodIn_of _ (by decide +kernel)) ggX4_behind_X4_readNumber
set_option maxRecDepth 20000 in
theorem ggX4_behind_X4_step : GoodIn wsX4_behind wsX4_step := goodIn_r _ [39, 40, 11, 41, 63, 64, 65, 66, 67, 68, 69, 70, 71, 72, 73, 74, 75, 76, 77, 78, 79, 80, 81, 82, 83, 84, 85, 86, 87, 88, 89, 90, 91, 92, 93, 94, 95] (by decide +kernel) (by decide +kernel)
set_option maxRecDepth 20000 in
theorem gX4_behind_X4_step : GoodIn wsX4_behind (wsV RX4 106 RX4 yX4_step wsX4_step) := goodIn_app (goodIn_of _ (by decide +kernel)) ggX4_behind_X4_step
set_option maxRecDepth 20000 in
theorem ggX4_behind_X4_isOperator : GoodIn wsX4_behind wsX4_isOperator := goodIn_r _ [44] (by decide +kernel) (by decide +kernel)
set_option maxRecDepth 20000 in
theorem gX4_behind_X4_isOperator : GoodIn wsX4_behind (va_wsS RX4 155 yX4_isOperator wsX4_isOperator) := goodIn_app (goodIn_of _ (by decide +kernel)) ggX4_behind_X4_isOperator
set_option maxRecDepth 20000 in
theorem ggX4_behind_X4_wrong : GoodIn wsX4_behind wsX4_wrong := goodIn_r _ [34, 35, 63, 64, 65, 66, 67, 68, 69, 70, 71, 72, 73, 74, 75, 76, 77, 78, 79, 80, 81, 82, 83, 84, 85, 86, 87, 88, 89, 90, 91, 92, 93, 94, 95] (by decide +kernel) (by decide +kernel)
set_option maxRecDepth 20000 in
theorem gX4_behind_X4_wrong : GoodIn wsX4_behind (wsV RX4 78 RX4 yX4_wrong wsX4_wrong) := goodIn_app (goodIn_of _ (by decide +kernel)) ggX4_behind_X4_wrong
set_option maxRecDepth 20000 in
theorem ggX4_behind_X4_whole : GoodIn wsX4_behind wsX4_whole := goodIn_r _ [48, 7, 9, 10, 4, 5, 6, 36, 37, 38, 18, 39, 40, 11, 41, 63, 64, 65, 66, 67, 68, 69, 70, 71, 72, 73, 74, 75, 76, 77, 78, 79, 80, 81, 82, 83, 84, 85, 86, 87, 88, 89, 90, 91, 92, 93, 94, 95] (by decide +kernel) (by decide +kernel)
set_option maxRecDepth 20000 in
theorem gX4_behind_X4_whole : GoodIn wsX4_behind (wsV RX4 147 RX4 yX4_whole wsX4_whole) := goodIn_app (goodIn_of _ (by decide +kernel)) ggX4_behind_X4_whole
set_option maxRecDepth 20000 in
theorem ggX4_behind_X4_want : GoodIn wsX4_behind wsX4_want := goodIn_r _ [52, 1, 15, 16, 17, 18, 19, 20, 21, 31, 32, 33, 34, 35, 63, 64, 65, 66, 67, 68, 69, 70, 71, 72, 73, 74, 75, 76, 77, 78, 79, 80, 81, 82, 83, 84, 85, 86, 87, 88, 89, 90, 91, 92, 93, 94, 95] (by decide +kernel) (by decide +kernel)
set_option maxRecDepth 20000 in
theorem gX4_behind_X4_want : GoodIn wsX4_behind (wsV RX4 122 RX4 yX4_want wsX4_want) := goodIn_app (goodIn_of _ (by decide +kernel)) ggX4_behind_X4_want
set_option maxRecDepth 20000 in
theorem ggX4_behind_X4_push : GoodIn wsX4_behind wsX4_push := goodIn_r _ [56, 9, 7, 8, 63, 64, 65, 66, 67, 68, 69, 70, 71, 72, 73, 74, 75, 76, 77, 78, 79, 80, 81, 82, 83, 84, 85, 86, 87, 88, 89, 90, 91, 92, 93, 94, 95] (by decide +kernel) (by decide +kernel)
set_option maxRecDepth 20000 in
theorem gX4_behind_X4_push : GoodIn wsX4_behind (wsV RX4 125 RX4 yX4_push wsX4_push) := goodIn_app (goodIn_of _ (by decide +kernel)) ggX4_behind_X4_push
set_option maxRecDepth 20000 in
theorem ggX4_behind_X4_block : GoodIn wsX4_behind wsX4_block := goodIn_r _ [60, 61, 13, 62, 12, 63, 64, 65, 66, 67, 68, 69, 70, 71, 72, 73, 74, 75, 76, 77, 78, 79, 80, 81, 82, 83, 84, 85, 86, 87, 88, 89, 90, 91, 92, 93, 94, 95] (by decide +kernel) (by decide +kernel)
set_option maxRecDepth 20000 in
theorem gX4_behind_X4_block : GoodIn wsX4_behind (wsV RX4 134 RX4 yX4_block wsX4_block) := goodIn_app (goodIn_of _ (by decide +kernel)) ggX4_behind_X4_block
theorem dX4_behind_0 : decode cX4_behind 0 = .ok (.aload_n 0, 1) := by decide +kernel
theorem dX4_behind_1 : decode cX4_behind 1 = .ok (.invokevirtual 74, 3) := by decide +kernel
theorem dX4_behind_4 : decode cX4_behind 4 = .ok (.istore_n 1, 1) := by decide +kernel
theorem dX4_behind_5 : decode cX4_behind 5 = .ok (.iload_n 1, 1) := by decide +kernel
theorem dX4_behind_6 : decode cX4_behind 6 = .ok (.bipush 60, 2) := by decide +kernel
theorem dX4_behind_8 : decode cX4_behind 8 = .ok (.if_icmp .eq 9, 3) := by decide +kernel
theorem dX4_behind_11 : decode cX4_behind 11 = .ok (.iload_n 1, 1) := by decide +kernel
theorem dX4_behind_12 : decode cX4_behind 12 = .ok (.bipush 62, 2) := by decide +kernel
theorem dX4_behind_14 : decode cX4_behind 14 = .ok (.if_icmp .ne 74, 3) := by decide +kernel
theorem dX4_behind_17 : decode cX4_behind 17 = .ok (.aload_n 0, 1) := by decide +kernel
theorem dX4_behind_18 : decode cX4_behind 18 = .ok (.dup, 1) := by decide +kernel
theorem dX4_behind_19 : decode cX4_behind 19 = .ok (.getfield 68, 3) := by decide +kernel
theorem dX4_behind_22 : decode cX4_behind 22 = .ok (.iconst 1, 1) := by decide +kernel
theorem dX4_behind_23 : decode cX4_behind 23 = .ok (.iadd, 1) := by decide +kernel
theorem dX4_behind_24 : decode cX4_behind 24 = .ok (.putfield 68, 3) := by decide +kernel
theorem dX4_behind_27 : decode cX4_behind 27 = .ok (.aload_n 0, 1) := by decide +kernel
theorem dX4_behind_28 : decode cX4_behind 28 = .ok (.lconst 1, 1) := by decide +kernel
theorem dX4_behind_29 : decode cX4_behind 29 = .ok (.ldc2_w 153, 3) := by decide +kernel
theorem dX4_behind_32 : decode cX4_behind 32 = .ok (.invokevirtual 130, 3) := by decide +kernel
theorem dX4_behind_35 : decode cX4_behind 35 = .ok (.aload_n 0, 1) := by decide +kernel
theorem dX4_behind_36 : decode cX4_behind 36 = .ok (.iload_n 1, 1) := by decide +kernel
theorem dX4_behind_37 : decode cX4_behind 37 = .ok (.bipush 60, 2) := by decide +kernel
theorem dX4_behind_39 : decode cX4_behind 39 = .ok (.if_icmp .ne 7, 3) := by decide +kernel
theorem dX4_behind_42 : decode cX4_behind 42 = .ok (.iconst 4, 1) := by decide +kernel
theorem dX4_behind_43 : decode cX4_behind 43 = .ok (.goto 4, 3) := by decide +kernel
theorem dX4_behind_46 : decode cX4_behind 46 = .ok (.iconst 5, 1) := by decide +kernel
theorem dX4_behind_47 : decode cX4_behind 47 = .ok (.aload_n 0, 1) := by decide +kernel
theorem dX4_behind_48 : decode cX4_behind 48 = .ok (.getfield 82, 3) := by decide +kernel
theorem dX4_behind_51 : decode cX4_behind 51 = .ok (.l2i, 1) := by decide +kernel
theorem dX4_behind_52 : decode cX4_behind 52 = .ok (.invokevirtual 106, 3) := by decide +kernel
theorem dX4_behind_55 : decode cX4_behind 55 = .ok (.aload_n 0, 1) := by decide +kernel
theorem dX4_behind_56 : decode cX4_behind 56 = .ok (.aload_n 0, 1) := by decide +kernel
theorem dX4_behind_57 : decode cX4_behind 57 = .ok (.getfield 43, 3) := by decide +kernel
theorem dX4_behind_60 : decode cX4_behind 60 = .ok (.aload_n 0, 1) := by decide +kernel
theorem dX4_behind_61 : decode cX4_behind 61 = .ok (.getfield 100, 3) := by decide +kernel
theorem dX4_behind_64 : decode cX4_behind 64 = .ok (.iconst 1, 1) := by decide +kernel
theorem dX4_behind_65 : decode cX4_behind 65 = .ok (.isub, 1) := by decide +kernel
theorem dX4_behind_66 : decode cX4_behind 66 = .ok (.baload, 1) := by decide +kernel
theorem dX4_behind_67 : decode cX4_behind 67 = .ok (.ifCond .eq 10, 3) := by decide +kernel
theorem dX4_behind_70 : decode cX4_behind 70 = .ok (.aload_n 0, 1) := by decide +kernel
theorem dX4_behind_71 : decode cX4_behind 71 = .ok (.getfield 150, 3) := by decide +kernel
theorem dX4_behind_74 : decode cX4_behind 74 = .ok (.goto 9, 3) := by decide +kernel
theorem dX4_behind_77 : decode cX4_behind 77 = .ok (.aload_n 0, 1) := by decide +kernel
theorem dX4_behind_78 : decode cX4_behind 78 = .ok (.getfield 150, 3) := by decide +kernel
theorem dX4_behind_81 : decode cX4_behind 81 = .ok (.iconst 1, 1) := by decide +kernel
theorem dX4_behind_82 : decode cX4_behind 82 = .ok (.iadd, 1) := by decide +kernel
theorem dX4_behind_83 : decode cX4_behind 83 = .ok (.putfield 150, 3) := by decide +kernel
theorem dX4_behind_86 : decode cX4_behind 86 = .ok (.iconst 2, 1) := by decide +kernel
theorem dX4_behind_87 : decode cX4_behind 87 = .ok (.ireturn, 1) := by decide +kernel
theorem dX4_behind_88 : decode cX4_behind 88 = .ok (.aload_n 0, 1) := by decide +kernel
theorem dX4_behind_89 : decode cX4_behind 89 = .ok (.getfield 97, 3) := by decide +kernel
theorem dX4_behind_92 : decode cX4_behind 92 = .ok (.iconst 1, 1) := by decide +kernel
theorem dX4_behind_93 : decode cX4_behind 93 = .ok (.isub, 1) := by decide +kernel
theorem dX4_behind_94 : decode cX4_behind 94 = .ok (.istore_n 2, 1) := by decide +kernel
theorem dX4_behind_95 : decode cX4_behind 95 = .ok (.aload_n 0, 1) := by decide +kernel
theorem dX4_behind_96 : decode cX4_behind 96 = .ok (.getfield 40, 3) := by decide +kernel
theorem dX4_behind_99 : decode cX4_behind 99 = .ok (.iload_n 2, 1) := by decide +kernel
theorem dX4_behind_100 : decode cX4_behind 100 = .ok (.iaload, 1) := by decide +kernel
theorem dX4_behind_101 : decode cX4_behind 101 = .ok (.ifCond .eq 97, 3) := by decide +kernel
theorem dX4_behind_104 : decode cX4_behind 104 = .ok (.aload_n 0, 1) := by decide +kernel
theorem dX4_behind_105 : decode cX4_behind 105 = .ok (.bipush 6, 2) := by decide +kernel
theorem dX4_behind_107 : decode cX4_behind 107 = .ok (.aload_n 0, 1) := by decide +kernel
theorem dX4_behind_108 : decode cX4_behind 108 = .ok (.getfield 40, 3) := by decide +kernel
theorem dX4_behind_111 : decode cX4_behind 111 = .ok (.iload_n 2, 1) := by decide +kernel
theorem dX4_behind_112 : decode cX4_behind 112 = .ok (.iaload, 1) := by decide +kernel
theorem dX4_behind_113 : decode cX4_behind 113 = .ok (.invokevirtual 106, 3) := by decide +kernel
theorem dX4_behind_116 : decode cX4_behind 116 = .ok (.aload_n 0, 1) := by decide +kernel
theorem dX4_behind_117 : decode cX4_behind 117 = .ok (.dup, 1) := by decide +kernel
theorem dX4_behind_118 : decode cX4_behind 118 = .ok (.getfield 100, 3) := by decide +kernel
theorem dX4_behind_121 : decode cX4_behind 121 = .ok (.iconst 1, 1) := by decide +kernel
theorem dX4_behind_122 : decode cX4_behind 122 = .ok (.isub, 1) := by decide +kernel
theorem dX4_behind_123 : decode cX4_behind 123 = .ok (.putfield 100, 3) := by decide +kernel
theorem dX4_behind_126 : decode cX4_behind 126 = .ok (.aload_n 0, 1) := by decide +kernel
theorem dX4_behind_127 : decode cX4_behind 127 = .ok (.getfield 43, 3) := by decide +kernel
theorem dX4_behind_130 : decode cX4_behind 130 = .ok (.aload_n 0, 1) := by decide +kernel
theorem dX4_behind_131 : decode cX4_behind 131 = .ok (.getfield 100, 3) := by decide +kernel
theorem dX4_behind_134 : decode cX4_behind 134 = .ok (.baload, 1) := by decide +kernel
theorem dX4_behind_135 : decode cX4_behind 135 = .ok (.ifCond .eq 21, 3) := by decide +kernel
theorem dX4_behind_138 : decode cX4_behind 138 = .ok (.aload_n 0, 1) := by decide +kernel
theorem dX4_behind_139 : decode cX4_behind 139 = .ok (.getfield 43, 3) := by decide +kernel
theorem dX4_behind_142 : decode cX4_behind 142 = .ok (.aload_n 0, 1) := by decide +kernel
theorem dX4_behind_143 : decode cX4_behind 143 = .ok (.getfield 100, 3) := by decide +kernel
theorem dX4_behind_146 : decode cX4_behind 146 = .ok (.iconst 1, 1) := by decide +kernel
theorem dX4_behind_147 : decode cX4_behind 147 = .ok (.isub, 1) := by decide +kernel
theorem dX4_behind_148 : decode cX4_behind 148 = .ok (.baload, 1) := by decide +kernel
theorem dX4_behind_149 : decode cX4_behind 149 = .ok (.ifCond .eq 7, 3) := by decide +kernel
theorem dX4_behind_152 : decode cX4_behind 152 = .ok (.iconst 1, 1) := by decide +kernel
theorem dX4_behind_153 : decode cX4_behind 153 = .ok (.goto 4, 3) := by decide +kernel
theorem dX4_behind_156 : decode cX4_behind 156 = .ok (.iconst 0, 1) := by decide +kernel
theorem dX4_behind_157 : decode cX4_behind 157 = .ok (.istore_n 3, 1) := by decide +kernel
theorem dX4_behind_158 : decode cX4_behind 158 = .ok (.aload_n 0, 1) := by decide +kernel
theorem dX4_behind_159 : decode cX4_behind 159 = .ok (.getfield 43, 3) := by decide +kernel
theorem dX4_behind_162 : decode cX4_behind 162 = .ok (.aload_n 0, 1) := by decide +kernel
theorem dX4_behind_163 : decode cX4_behind 163 = .ok (.getfield 100, 3) := by decide +kernel
theorem dX4_behind_166 : decode cX4_behind 166 = .ok (.iconst 1, 1) := by decide +kernel
theorem dX4_behind_167 : decode cX4_behind 167 = .ok (.isub, 1) := by decide +kernel
theorem dX4_behind_168 : decode cX4_behind 168 = .ok (.iload_n 3, 1) := by decide +kernel
theorem dX4_behind_169 : decode cX4_behind 169 = .ok (.bastore, 1) := by decide +kernel
theorem dX4_behind_170 : decode cX4_behind 170 = .ok (.aload_n 0, 1) := by decide +kernel
theorem dX4_behind_171 : decode cX4_behind 171 = .ok (.iload_n 3, 1) := by decide +kernel
theorem dX4_behind_172 : decode cX4_behind 172 = .ok (.ifCond .eq 10, 3) := by decide +kernel
theorem dX4_behind_175 : decode cX4_behind 175 = .ok (.aload_n 0, 1) := by decide +kernel
theorem dX4_behind_176 : decode cX4_behind 176 = .ok (.getfield 150, 3) := by decide +kernel
theorem dX4_behind_179 : decode cX4_behind 179 = .ok (.goto 9, 3) := by decide +kernel
theorem dX4_behind_182 : decode cX4_behind 182 = .ok (.aload_n 0, 1) := by decide +kernel
theorem dX4_behind_183 : decode cX4_behind 183 = .ok (.getfield 150, 3) := by decide +kernel
theorem dX4_behind_186 : decode cX4_behind 186 = .ok (.iconst 1, 1) := by decide +kernel
theorem dX4_behind_187 : decode cX4_behind 187 = .ok (.iadd, 1) := by decide +kernel
theorem dX4_behind_188 : decode cX4_behind 188 = .ok (.putfield 150, 3) := by decide +kernel
theorem dX4_behind_191 : decode cX4_behind 191 = .ok (.aload_n 0, 1) := by decide +kernel
theorem dX4_behind_192 : decode cX4_behind 192 = .ok (.getfield 40, 3) := by decide +kernel
theorem dX4_behind_195 : decode cX4_behind 195 = .ok (.iload_n 2, 1) := by decide +kernel
theorem dX4_behind_196 : decode cX4_behind 196 = .ok (.iconst 0, 1) := by decide +kernel
theorem dX4_behind_197 : decode cX4_behind 197 = .ok (.iastore, 1) := by decide +kernel
theorem dX4_behind_198 : decode cX4_behind 198 = .ok (.iload_n 1, 1) := by decide +kernel
theorem dX4_behind_199 : decode cX4_behind 199 = .ok (.invokestatic 155, 3) := by decide +kernel
theorem dX4_behind_202 : decode cX4_behind 202 = .ok (.ifCond .eq 22, 3) := by decide +kernel
theorem dX4_behind_205 : decode cX4_behind 205 = .ok (.aload_n 0, 1) := by decide +kernel
theorem dX4_behind_206 : decode cX4_behind 206 = .ok (.getfield 40, 3) := by decide +kernel
theorem dX4_behind_209 : decode cX4_behind 209 = .ok (.iload_n 2, 1) := by decide +kernel
theorem dX4_behind_210 : decode cX4_behind 210 = .ok (.iload_n 1, 1) := by decide +kernel
theorem dX4_behind_211 : decode cX4_behind 211 = .ok (.iastore, 1) := by decide +kernel
theorem dX4_behind_212 : decode cX4_behind 212 = .ok (.aload_n 0, 1) := by decide +kernel
theorem dX4_behind_213 : decode cX4_behind 213 = .ok (.dup, 1) := by decide +kernel
theorem dX4_behind_214 : decode cX4_behind 214 = .ok (.getfield 68, 3) := by decide +kernel
theorem dX4_behind_217 : decode cX4_behind 217 = .ok (.iconst 1, 1) := by decide +kernel
theorem dX4_behind_218 : decode cX4_behind 218 = .ok (.iadd, 1) := by decide +kernel
theorem dX4_behind_219 : decode cX4_behind 219 = .ok (.putfield 68, 3) := by decide +kernel
theorem dX4_behind_222 : decode cX4_behind 222 = .ok (.iconst 1, 1) := by decide +kernel
theorem dX4_behind_223 : decode cX4_behind 223 = .ok (.ireturn, 1) := by decide +kernel
theorem dX4_behind_224 : decode cX4_behind 224 = .ok (.aload_n 0, 1) := by decide +kernel
theorem dX4_behind_225 : decode cX4_behind 225 = .ok (.getfield 37, 3) := by decide +kernel
theorem dX4_behind_228 : decode cX4_behind 228 = .ok (.iload_n 2, 1) := by decide +kernel
theorem dX4_behind_229 : decode cX4_behind 229 = .ok (.iaload, 1) := by decide +kernel
theorem dX4_behind_230 : decode cX4_behind 230 = .ok (.istore_n 3, 1) := by decide +kernel
theorem dX4_behind_231 : decode cX4_behind 231 = .ok (.iload_n 3, 1) := by decide +kernel
theorem dX4_behind_232 : decode cX4_behind 232 = .ok (.ifCond .eq 8, 3) := by decide +kernel
theorem dX4_behind_235 : decode cX4_behind 235 = .ok (.iload_n 3, 1) := by decide +kernel
theorem dX4_behind_236 : decode cX4_behind 236 = .ok (.iconst 2, 1) := by decide +kernel
theorem dX4_behind_237 : decode cX4_behind 237 = .ok (.if_icmp .ne 8, 3) := by decide +kernel
theorem dX4_behind_240 : decode cX4_behind 240 = .ok (.bipush 59, 2) := by decide +kernel
theorem dX4_behind_242 : decode cX4_behind 242 = .ok (.goto 25, 3) := by decide +kernel
theorem dX4_behind_245 : decode cX4_behind 245 = .ok (.iload_n 3, 1) := by decide +kernel
theorem dX4_behind_246 : decode cX4_behind 246 = .ok (.iconst 3, 1) := by decide +kernel
theorem dX4_behind_247 : decode cX4_behind 247 = .ok (.if_icmp .ne 8, 3) := by decide +kernel
theorem dX4_behind_250 : decode cX4_behind 250 = .ok (.bipush 123, 2) := by decide +kernel
theorem dX4_behind_252 : decode cX4_behind 252 = .ok (.goto 15, 3) := by decide +kernel
theorem dX4_behind_255 : decode cX4_behind 255 = .ok (.iload_n 3, 1) := by decide +kernel
theorem dX4_behind_256 : decode cX4_behind 256 = .ok (.iconst 4, 1) := by decide +kernel
theorem dX4_behind_257 : decode cX4_behind 257 = .ok (.if_icmp .ne 8, 3) := by decide +kernel
theorem dX4_behind_260 : decode cX4_behind 260 = .ok (.bipush 41, 2) := by decide +kernel
theorem dX4_behind_262 : decode cX4_behind 262 = .ok (.goto 5, 3) := by decide +kernel
theorem dX4_behind_265 : decode cX4_behind 265 = .ok (.bipush 93, 2) := by decide +kernel
theorem dX4_behind_267 : decode cX4_behind 267 = .ok (.istore 4, 2) := by decide +kernel
theorem dX4_behind_269 : decode cX4_behind 269 = .ok (.iload_n 1, 1) := by decide +kernel
theorem dX4_behind_270 : decode cX4_behind 270 = .ok (.iload 4, 2) := by decide +kernel
theorem dX4_behind_272 : decode cX4_behind 272 = .ok (.if_icmp .eq 13, 3) := by decide +kernel
theorem dX4_behind_275 : decode cX4_behind 275 = .ok (.aload_n 0, 1) := by decide +kernel
theorem dX4_behind_276 : decode cX4_behind 276 = .ok (.aload_n 0, 1) := by decide +kernel
theorem dX4_behind_277 : decode cX4_behind 277 = .ok (.getfield 68, 3) := by decide +kernel
theorem dX4_behind_280 : decode cX4_behind 280 = .ok (.invokevirtual 78, 3) := by decide +kernel
theorem dX4_behind_283 : decode cX4_behind 283 = .ok (.iconst 2, 1) := by decide +kernel
theorem dX4_behind_284 : decode cX4_behind 284 = .ok (.ireturn, 1) := by decide +kernel
theorem dX4_behind_285 : decode cX4_behind 285 = .ok (.aload_n 0, 1) := by decide +kernel
theorem dX4_behind_286 : decode cX4_behind 286 = .ok (.dup, 1) := by decide +kernel
theorem dX4_behind_287 : decode cX4_behind 287 = .ok (.getfield 68, 3) := by decide +kernel
theorem dX4_behind_290 : decode cX4_behind 290 = .ok (.iconst 1, 1) := by decide +kernel
theorem dX4_behind_291 : decode cX4_behind 291 = .ok (.iadd, 1) := by decide +kernel
theorem dX4_behind_292 : decode cX4_behind 292 = .ok (.putfield 68, 3) := by decide +kernel
theorem dX4_behind_295 : decode cX4_behind 295 = .ok (.aload_n 0, 1) := by decide +kernel
theorem dX4_behind_296 : decode cX4_behind 296 = .ok (.dup, 1) := by decide +kernel
theorem dX4_behind_297 : decode cX4_behind 297 = .ok (.getfield 97, 3) := by decide +kernel
theorem dX4_behind_300 : decode cX4_behind 300 = .ok (.iconst 1, 1) := by decide +kernel
theorem dX4_behind_301 : decode cX4_behind 301 = .ok (.isub, 1) := by decide +kernel
theorem dX4_behind_302 : decode cX4_behind 302 = .ok (.putfield 97, 3) := by decide +kernel
theorem dX4_behind_305 : decode cX4_behind 305 = .ok (.iload_n 3, 1) := by decide +kernel
theorem dX4_behind_306 : decode cX4_behind 306 = .ok (.iconst 4, 1) := by decide +kernel
theorem dX4_behind_307 : decode cX4_behind 307 = .ok (.if_icmp .eq 8, 3) := by decide +kernel
theorem dX4_behind_310 : decode cX4_behind 310 = .ok (.iload_n 3, 1) := by decide +kernel
theorem dX4_behind_311 : decode cX4_behind 311 = .ok (.iconst 5, 1) := by decide +kernel
theorem dX4_behind_312 : decode cX4_behind 312 = .ok (.if_icmp .ne 42, 3) := by decide +kernel
theorem dX4_behind_315 : decode cX4_behind 315 = .ok (.aload_n 0, 1) := by decide +kernel
theorem dX4_behind_316 : decode cX4_behind 316 = .ok (.dup, 1) := by decide +kernel
theorem dX4_behind_317 : decode cX4_behind 317 = .ok (.getfield 138, 3) := by decide +kernel
theorem dX4_behind_320 : decode cX4_behind 320 = .ok (.iconst 1, 1) := by decide +kernel
theorem dX4_behind_321 : decode cX4_behind 321 = .ok (.isub, 1) := by decide +kernel
theorem dX4_behind_322 : decode cX4_behind 322 = .ok (.putfield 138, 3) := by decide +kernel
theorem dX4_behind_325 : decode cX4_behind 325 = .ok (.iload_n 3, 1) := by decide +kernel
theorem dX4_behind_326 : decode cX4_behind 326 = .ok (.iconst 5, 1) := by decide +kernel
theorem dX4_behind_327 : decode cX4_behind 327 = .ok (.if_icmp .ne 21, 3) := by decide +kernel
theorem dX4_behind_330 : decode cX4_behind 330 = .ok (.aload_n 0, 1) := by decide +kernel
theorem dX4_behind_331 : decode cX4_behind 331 = .ok (.iconst 2, 1) := by decide +kernel
theorem dX4_behind_332 : decode cX4_behind 332 = .ok (.iconst 0, 1) := by decide +kernel
theorem dX4_behind_333 : decode cX4_behind 333 = .ok (.invokevirtual 106, 3) := by decide +kernel
theorem dX4_behind_336 : decode cX4_behind 336 = .ok (.aload_n 0, 1) := by decide +kernel
theorem dX4_behind_337 : decode cX4_behind 337 = .ok (.getfield 43, 3) := by decide +kernel
theorem dX4_behind_340 : decode cX4_behind 340 = .ok (.aload_n 0, 1) := by decide +kernel
theorem dX4_behind_341 : decode cX4_behind 341 = .ok (.getfield 100, 3) := by decide +kernel
theorem dX4_behind_344 : decode cX4_behind 344 = .ok (.iconst 1, 1) := by decide +kernel
theorem dX4_behind_345 : decode cX4_behind 345 = .ok (.isub, 1) := by decide +kernel
theorem dX4_behind_346 : decode cX4_behind 346 = .ok (.iconst 0, 1) := by decide +kernel
theorem dX4_behind_347 : decode cX4_behind 347 = .ok (.bastore, 1) := by decide +kernel
theorem dX4_behind_348 : decode cX4_behind 348 = .ok (.aload_n 0, 1) := by decide +kernel
theorem dX4_behind_349 : decode cX4_behind 349 = .ok (.invokevirtual 147, 3) := by decide +kernel
theorem dX4_behind_352 : decode cX4_behind 352 = .ok (.iconst 2, 1) := by decide +kernel
theorem dX4_behind_353 : decode cX4_behind 353 = .ok (.ireturn, 1) := by decide +kernel
theorem dX4_behind_354 : decode cX4_behind 354 = .ok (.aload_n 0, 1) := by decide +kernel
theorem dX4_behind_355 : decode cX4_behind 355 = .ok (.dup, 1) := by decide +kernel
theorem dX4_behind_356 : decode cX4_behind 356 = .ok (.getfield 100, 3) := by decide +kernel
theorem dX4_behind_359 : decode cX4_behind 359 = .ok (.iconst 1, 1) := by decide +kernel
theorem dX4_behind_360 : decode cX4_behind 360 = .ok (.isub, 1) := by decide +kernel
theorem dX4_behind_361 : decode cX4_behind 361 = .ok (.putfield 100, 3) := by decide +kernel
theorem dX4_behind_364 : decode cX4_behind 364 = .ok (.iload_n 3, 1) := by decide +kernel
theorem dX4_behind_365 : decode cX4_behind 365 = .ok (.iconst 1, 1) := by decide +kernel
theorem dX4_behind_366 : decode cX4_behind 366 = .ok (.if_icmp .ne 16, 3) := by decide +kernel
theorem dX4_behind_369 : decode cX4_behind 369 = .ok (.aload_n 0, 1) := by decide +kernel
theorem dX4_behind_370 : decode cX4_behind 370 = .ok (.bipush 61, 2) := by decide +kernel
theorem dX4_behind_372 : decode cX4_behind 372 = .ok (.invokevirtual 122, 3) := by decide +kernel
theorem dX4_behind_375 : decode cX4_behind 375 = .ok (.aload_n 0, 1) := by decide +kernel
theorem dX4_behind_376 : decode cX4_behind 376 = .ok (.iconst 2, 1) := by decide +kernel
theorem dX4_behind_377 : decode cX4_behind 377 = .ok (.invokevirtual 125, 3) := by decide +kernel
theorem dX4_behind_380 : decode cX4_behind 380 = .ok (.iconst 1, 1) := by decide +kernel
theorem dX4_behind_381 : decode cX4_behind 381 = .ok (.ireturn, 1) := by decide +kernel
theorem dX4_behind_382 : decode cX4_behind 382 = .ok (.iload_n 3, 1) := by decide +kernel
theorem dX4_behind_383 : decode cX4_behind 383 = .ok (.iconst 3, 1) := by decide +kernel
theorem dX4_behind_384 : decode cX4_behind 384 = .ok (.if_icmp .ne 33, 3) := by decide +kernel
theorem dX4_behind_387 : decode cX4_behind 387 = .ok (.aload_n 0, 1) := by decide +kernel
theorem dX4_behind_388 : decode cX4_behind 388 = .ok (.bipush 9, 2) := by decide +kernel
theorem dX4_behind_390 : decode cX4_behind 390 = .ok (.iconst 0, 1) := by decide +kernel
theorem dX4_behind_391 : decode cX4_behind 391 = .ok (.invokevirtual 106, 3) := by decide +kernel
theorem dX4_behind_394 : decode cX4_behind 394 = .ok (.aload_n 0, 1) := by decide +kernel
theorem dX4_behind_395 : decode cX4_behind 395 = .ok (.iconst (-1), 1) := by decide +kernel
theorem dX4_behind_396 : decode cX4_behind 396 = .ok (.aload_n 0, 1) := by decide +kernel
theorem dX4_behind_397 : decode cX4_behind 397 = .ok (.getfield 94, 3) := by decide +kernel
theorem dX4_behind_400 : decode cX4_behind 400 = .ok (.iconst 1, 1) := by decide +kernel
theorem dX4_behind_401 : decode cX4_behind 401 = .ok (.isub, 1) := by decide +kernel
theorem dX4_behind_402 : decode cX4_behind 402 = .ok (.aload_n 0, 1) := by decide +kernel
theorem dX4_behind_403 : decode cX4_behind 403 = .ok (.getfield 53, 3) := by decide +kernel
theorem dX4_behind_406 : decode cX4_behind 406 = .ok (.aload_n 0, 1) := by decide +kernel
theorem dX4_behind_407 : decode cX4_behind 407 = .ok (.getfield 103, 3) := by decide +kernel
theorem dX4_behind_410 : decode cX4_behind 410 = .ok (.iaload, 1) := by decide +kernel
theorem dX4_behind_411 : decode cX4_behind 411 = .ok (.invokevirtual 134, 3) := by decide +kernel
theorem dX4_behind_414 : decode cX4_behind 414 = .ok (.goto 22, 3) := by decide +kernel
theorem dX4_behind_417 : decode cX4_behind 417 = .ok (.aload_n 0, 1) := by decide +kernel
theorem dX4_behind_418 : decode cX4_behind 418 = .ok (.iload_n 3, 1) := by decide +kernel
theorem dX4_behind_419 : decode cX4_behind 419 = .ok (.ifCond .ne 8, 3) := by decide +kernel
theorem dX4_behind_422 : decode cX4_behind 422 = .ok (.bipush 7, 2) := by decide +kernel
theorem dX4_behind_424 : decode cX4_behind 424 = .ok (.goto 5, 3) := by decide +kernel
theorem dX4_behind_427 : decode cX4_behind 427 = .ok (.bipush 8, 2) := by decide +kernel
theorem dX4_behind_429 : decode cX4_behind 429 = .ok (.aload_n 0, 1) := by decide +kernel
theorem dX4_behind_430 : decode cX4_behind 430 = .ok (.getfield 116, 3) := by decide +kernel
theorem dX4_behind_433 : decode cX4_behind 433 = .ok (.invokevirtual 106, 3) := by decide +kernel
theorem dX4_behind_436 : decode cX4_behind 436 = .ok (.iconst 0, 1) := by decide +kernel
theorem dX4_behind_437 : decode cX4_behind 437 = .ok (.ireturn, 1) := by decide +kernel
set_option maxRecDepth 20000 in
theorem ggX4_compile_X4_statement : GoodIn wsX4_compile wsX4_statement := goodIn_r _ [24, 9, 2, 25, 26, 16, 4, 3, 27, 28, 1, 10, 29, 30, 31, 32, 23, 33, 11, 34, 35, 36, 37, 38, 14, 39, 40, 41, 42, 43, 44, 45, 46, 47, 48, 49, 50, 51, 52, 53, 54, 55, 56, 57, 58, 6, 59, 60, 61, 62, 63, 64, 65, 66, 67, 68, 69, 70, 71, 72, 95, 96, 97, 98, 99, 100, 101, 102, 103, 104, 105, 106, 107, 108, 109, 110, 111, 112, 113, 114, 115, 116, 117, 118, 119, 120, 121, 122, 123, 124, 125, 126, 127] (by decide +kernel) (by decide +kernel)
set_option maxRecDepth 20000 in
theorem gX4_compile_X4_statement : GoodIn wsX4_compile (wsV RX4 158 RX4 yX4_statement wsX4_statement) := goodIn_app (goodIn_of _ (by decide +kernel)) ggX4_compile_X4_statement
set_option maxRecDepth 20000 in
theorem ggX4_compile_X4_factor : GoodIn wsX4_compile wsX4_factor := goodIn_r _ [76, 7, 2, 77, 29, 30, 31, 32, 23, 33, 11, 34, 46, 47, 48, 49, 1, 54, 55, 56, 57, 58, 6, 59, 50, 51, 52, 53, 39, 40, 41, 35, 36, 37, 38, 14, 4, 16, 78, 79, 80, 81, 82, 8, 66, 67, 68, 60, 61, 62, 63, 64, 65, 83, 84, 85, 86, 5, 95, 96, 97, 98, 99, 100, 101, 102, 103, 104, 105, 106, 107, 108, 109, 110, 111, 112, 113, 114, 115, 116, 117, 118, 119, 120, 121, 122, 123, 124, 125, 126, 127] (by decide +kernel) (by decide +kernel)
set_option maxRecDepth 20000 in
theorem gX4_compile_X4_factor : GoodIn wsX4_compile (wsV RX4 161 RX4 yX4_factor wsX4_factor) := goodIn_app (goodIn_of _ (by decide +kernel)) ggX4_compile_X4_factor
set_option maxRecDepth 20000 in
theorem ggX4_compile_X4_behind : GoodIn wsX4_compile wsX4_behind := goodIn_r _ [90, 2, 91, 29, 82, 8, 5, 6, 59, 58, 7, 4, 10, 9, 27, 30, 31, 32, 23, 33, 11, 34, 60, 61, 62, 63, 64, 65, 66, 67, 68, 46, 47, 48, 49, 1, 35, 36, 37, 38, 14, 16, 92, 93, 94, 83, 84, 85, 86, 50, 51, 52, 53, 54, 55, 56, 57, 69, 70, 71, 72, 25, 26, 95, 96, 97, 98, 99, 100, 101, 102, 103, 104, 105, 106, 107, 108, 109, 110, 111, 112, 113, 114, 115, 116, 117, 118, 119, 120, 121, 122, 123, 124, 125, 126, 127] (by decide +kernel) (by decide +kernel)
set_option maxRecDepth 20000 in
theorem gX4_compile_X4_behind : GoodIn wsX4_compile (wsV RX4 164 RX4 yX4_behind wsX4_behind) := goodIn_app (goodIn_of _ (by decide +kernel)) ggX4_compile_X4_behind
theorem dX4_compile_0 : decode cX4_compile 0 = .ok (.aload_n 0, 1) := by decide +kernel
theorem dX4_compile_1 : decode cX4_compile 1 = .ok (.iconst 0, 1) := by decide +kernel
theorem dX4_compile_2 : decode cX4_compile 2 = .ok (.putfield 71, 3) := by decide +kernel
theorem dX4_compile_5 : decode cX4_compile 5 = .ok (.aload_n 0, 1) := by decide +kernel
theorem dX4_compile_6 : decode cX4_compile 6 = .ok (.iconst 0, 1) := by decide +kernel
theorem dX4_compile_7 : decode cX4_compile 7 = .ok (.putfield 68, 3) := by decide +kernel
theorem dX4_compile_10 : decode cX4_compile 10 = .ok (.aload_n 0, 1) := by decide +kernel
theorem dX4_compile_11 : decode cX4_compile 11 = .ok (.iconst 0, 1) := by decide +kernel
theorem dX4_compile_12 : decode cX4_compile 12 = .ok (.putfield 110, 3) := by decide +kernel
theorem dX4_compile_15 : decode cX4_compile 15 = .ok (.aload_n 0, 1) := by decide +kernel
theorem dX4_compile_16 : decode cX4_compile 16 = .ok (.iconst 0, 1) := by decide +kernel
theorem dX4_compile_17 : decode cX4_compile 17 = .ok (.putfield 94, 3) := by decide +kernel
theorem dX4_compile_20 : decode cX4_compile 20 = .ok (.aload_n 0, 1) := by decide +kernel
theorem dX4_compile_21 : decode cX4_compile 21 = .ok (.iconst 0, 1) := by decide +kernel
theorem dX4_compile_22 : decode cX4_compile 22 = .ok (.putfield 150, 3) := by decide +kernel
theorem dX4_compile_25 : decode cX4_compile 25 = .ok (.aload_n 0, 1) := by decide +kernel
theorem dX4_compile_26 : decode cX4_compile 26 = .ok (.iconst 0, 1) := by decide +kernel
theorem dX4_compile_27 : decode cX4_compile 27 = .ok (.putfield 97, 3) := by decide +kernel
theorem dX4_compile_30 : decode cX4_compile 30 = .ok (.aload_n 0, 1) := by decide +kernel
theorem dX4_compile_31 : decode cX4_compile 31 = .ok (.iconst 0, 1) := by decide +kernel
theorem dX4_compile_32 : decode cX4_compile 32 = .ok (.putfield 138, 3) := by decide +kernel
theorem dX4_compile_35 : decode cX4_compile 35 = .ok (.aload_n 0, 1) := by decide +kernel
theorem dX4_compile_36 : decode cX4_compile 36 = .ok (.iconst 0, 1) := by decide +kernel
theorem dX4_compile_37 : decode cX4_compile 37 = .ok (.putfield 100, 3) := by decide +kernel
theorem dX4_compile_40 : decode cX4_compile 40 = .ok (.aload_n 0, 1) := by decide +kernel
theorem dX4_compile_41 : decode cX4_compile 41 = .ok (.iconst 0, 1) := by decide +kernel
theorem dX4_compile_42 : decode cX4_compile 42 = .ok (.putfield 103, 3) := by decide +kernel
theorem dX4_compile_45 : decode cX4_compile 45 = .ok (.aload_n 0, 1) := by decide +kernel
theorem dX4_compile_46 : decode cX4_compile 46 = .ok (.getfield 53, 3) := by decide +kernel
theorem dX4_compile_49 : decode cX4_compile 49 = .ok (.iconst 0, 1) := by decide +kernel
theorem dX4_compile_50 : decode cX4_compile 50 = .ok (.iconst 1, 1) := by decide +kernel
theorem dX4_compile_51 : decode cX4_compile 51 = .ok (.iastore, 1) := by decide +kernel
theorem dX4_compile_52 : decode cX4_compile 52 = .ok (.iconst 0, 1) := by decide +kernel
theorem dX4_compile_53 : decode cX4_compile 53 = .ok (.istore_n 1, 1) := by decide +kernel
theorem dX4_compile_54 : decode cX4_compile 54 = .ok (.aload_n 0, 1) := by decide +kernel
theorem dX4_compile_55 : decode cX4_compile 55 = .ok (.getfield 71, 3) := by decide +kernel
theorem dX4_compile_58 : decode cX4_compile 58 = .ok (.ifCond .ne 56, 3) := by decide +kernel
theorem dX4_compile_61 : decode cX4_compile 61 = .ok (.iload_n 1, 1) := by decide +kernel
theorem dX4_compile_62 : decode cX4_compile 62 = .ok (.ifCond .ne 21, 3) := by decide +kernel
theorem dX4_compile_65 : decode cX4_compile 65 = .ok (.aload_n 0, 1) := by decide +kernel
theorem dX4_compile_66 : decode cX4_compile 66 = .ok (.getfield 103, 3) := by decide +kernel
theorem dX4_compile_69 : decode cX4_compile 69 = .ok (.ifCond .ne 14, 3) := by decide +kernel
theorem dX4_compile_72 : decode cX4_compile 72 = .ok (.aload_n 0, 1) := by decide +kernel
theorem dX4_compile_73 : decode cX4_compile 73 = .ok (.getfield 68, 3) := by decide +kernel
theorem dX4_compile_76 : decode cX4_compile 76 = .ok (.aload_n 0, 1) := by decide +kernel
theorem dX4_compile_77 : decode cX4_compile 77 = .ok (.getfield 65, 3) := by decide +kernel
theorem dX4_compile_80 : decode cX4_compile 80 = .ok (.if_icmp .ge 34, 3) := by decide +kernel
theorem dX4_compile_83 : decode cX4_compile 83 = .ok (.iload_n 1, 1) := by decide +kernel
theorem dX4_compile_84 : decode cX4_compile 84 = .ok (.ifCond .ne 10, 3) := by decide +kernel
theorem dX4_compile_87 : decode cX4_compile 87 = .ok (.aload_n 0, 1) := by decide +kernel
theorem dX4_compile_88 : decode cX4_compile 88 = .ok (.invokevirtual 158, 3) := by decide +kernel
theorem dX4_compile_91 : decode cX4_compile 91 = .ok (.goto 19, 3) := by decide +kernel
theorem dX4_compile_94 : decode cX4_compile 94 = .ok (.iload_n 1, 1) := by decide +kernel
theorem dX4_compile_95 : decode cX4_compile 95 = .ok (.iconst 1, 1) := by decide +kernel
theorem dX4_compile_96 : decode cX4_compile 96 = .ok (.if_icmp .ne 10, 3) := by decide +kernel
theorem dX4_compile_99 : decode cX4_compile 99 = .ok (.aload_n 0, 1) := by decide +kernel
theorem dX4_compile_100 : decode cX4_compile 100 = .ok (.invokevirtual 161, 3) := by decide +kernel
theorem dX4_compile_103 : decode cX4_compile 103 = .ok (.goto 7, 3) := by decide +kernel
theorem dX4_compile_106 : decode cX4_compile 106 = .ok (.aload_n 0, 1) := by decide +kernel
theorem dX4_compile_107 : decode cX4_compile 107 = .ok (.invokevirtual 164, 3) := by decide +kernel
theorem dX4_compile_110 : decode cX4_compile 110 = .ok (.istore_n 1, 1) := by decide +kernel
theorem dX4_compile_111 : decode cX4_compile 111 = .ok (.goto (-57), 3) := by decide +kernel
theorem dX4_compile_114 : decode cX4_compile 114 = .ok (.aload_n 0, 1) := by decide +kernel
theorem dX4_compile_115 : decode cX4_compile 115 = .ok (.aload_n 0, 1) := by decide +kernel
theorem dX4_compile_116 : decode cX4_compile 116 = .ok (.getfield 71, 3) := by decide +kernel
theorem dX4_compile_119 : decode cX4_compile 119 = .ok (.ifCond .le 7, 3) := by decide +kernel
theorem dX4_compile_122 : decode cX4_compile 122 = .ok (.iconst 1, 1) := by decide +kernel
theorem dX4_compile_123 : decode cX4_compile 123 = .ok (.goto 4, 3) := by decide +kernel
theorem dX4_compile_126 : decode cX4_compile 126 = .ok (.iconst 0, 1) := by decide +kernel
theorem dX4_compile_127 : decode cX4_compile 127 = .ok (.putfield 59, 3) := by decide +kernel
theorem dX4_compile_130 : decode cX4_compile 130 = .ok (.aload_n 0, 1) := by decide +kernel
theorem dX4_compile_131 : decode cX4_compile 131 = .ok (.getfield 59, 3) := by decide +kernel
theorem dX4_compile_134 : decode cX4_compile 134 = .ok (.ifCond .le 5, 3) := by decide +kernel
theorem dX4_compile_137 : decode cX4_compile 137 = .ok (.iconst 0, 1) := by decide +kernel
theorem dX4_compile_138 : decode cX4_compile 138 = .ok (.ireturn, 1) := by decide +kernel
theorem dX4_compile_139 : decode cX4_compile 139 = .ok (.iconst 0, 1) := by decide +kernel
theorem dX4_compile_140 : decode cX4_compile 140 = .ok (.istore_n 2, 1) := by decide +kernel
theorem dX4_compile_141 : decode cX4_compile 141 = .ok (.iload_n 2, 1) := by decide +kernel
theorem dX4_compile_142 : decode cX4_compile 142 = .ok (.aload_n 0, 1) := by decide +kernel
theorem dX4_compile_143 : decode cX4_compile 143 = .ok (.getfield 94, 3) := by decide +kernel
theorem dX4_compile_146 : decode cX4_compile 146 = .ok (.if_icmp .ge 33, 3) := by decide +kernel
theorem dX4_compile_149 : decode cX4_compile 149 = .ok (.aload_n 0, 1) := by decide +kernel
theorem dX4_compile_150 : decode cX4_compile 150 = .ok (.getfield 31, 3) := by decide +kernel
theorem dX4_compile_153 : decode cX4_compile 153 = .ok (.iload_n 2, 1) := by decide +kernel
theorem dX4_compile_154 : decode cX4_compile 154 = .ok (.aload_n 0, 1) := by decide +kernel
theorem dX4_compile_155 : decode cX4_compile 155 = .ok (.getfield 25, 3) := by decide +kernel
theorem dX4_compile_158 : decode cX4_compile 158 = .ok (.iload_n 2, 1) := by decide +kernel
theorem dX4_compile_159 : decode cX4_compile 159 = .ok (.iaload, 1) := by decide +kernel
theorem dX4_compile_160 : decode cX4_compile 160 = .ok (.iastore, 1) := by decide +kernel
theorem dX4_compile_161 : decode cX4_compile 161 = .ok (.aload_n 0, 1) := by decide +kernel
theorem dX4_compile_162 : decode cX4_compile 162 = .ok (.getfield 34, 3) := by decide +kernel
theorem dX4_compile_165 : decode cX4_compile 165 = .ok (.iload_n 2, 1) := by decide +kernel
theorem dX4_compile_166 : decode cX4_compile 166 = .ok (.aload_n 0, 1) := by decide +kernel
theorem dX4_compile_167 : decode cX4_compile 167 = .ok (.getfield 28, 3) := by decide +kernel
theorem dX4_compile_170 : decode cX4_compile 170 = .ok (.iload_n 2, 1) := by decide +kernel
theorem dX4_compile_171 : decode cX4_compile 171 = .ok (.iaload, 1) := by decide +kernel
theorem dX4_compile_172 : decode cX4_compile 172 = .ok (.iastore, 1) := by decide +kernel
theorem dX4_compile_173 : decode cX4_compile 173 = .ok (.iinc 2 1, 3) := by decide +kernel
theorem dX4_compile_176 : decode cX4_compile 176 = .ok (.goto (-35), 3) := by decide +kernel
theorem dX4_compile_179 : decode cX4_compile 179 = .ok (.aload_n 0, 1) := by decide +kernel
theorem dX4_compile_180 : decode cX4_compile 180 = .ok (.aload_n 0, 1) := by decide +kernel
theorem dX4_compile_181 : decode cX4_compile 181 = .ok (.getfield 94, 3) := by decide +kernel
theorem dX4_compile_184 : decode cX4_compile 184 = .ok (.putfield 167, 3) := by decide +kernel
theorem dX4_compile_187 : decode cX4_compile 187 = .ok (.aload_n 0, 1) := by decide +kernel
theorem dX4_compile_188 : decode cX4_compile 188 = .ok (.aload_n 0, 1) := by decide +kernel
theorem dX4_compile_189 : decode cX4_compile 189 = .ok (.getfield 150, 3) := by decide +kernel
theorem dX4_compile_192 : decode cX4_compile 192 = .ok (.putfield 170, 3) := by decide +kernel
theorem dX4_compile_195 : decode cX4_compile 195 = .ok (.aload_n 0, 1) := by decide +kernel
theorem dX4_compile_196 : decode cX4_compile 196 = .ok (.iconst 1, 1) := by decide +kernel
theorem dX4_compile_197 : decode cX4_compile 197 = .ok (.putfield 173, 3) := by decide +kernel
