theorem dX4_readNumber_36 : decode cX4_readNumber 36 = .ok (.dup, 1) := by decide +kernel
theorem dX4_readNumber_37 : decode cX4_readNumber 37 = .ok (.getfield 68, 3) := by decide +kernel
theorem dX4_readNumber_40 : decode cX4_readNumber 40 = .ok (.iconst 1, 1) := by decide +kernel
theorem dX4_readNumber_41 : decode cX4_readNumber 41 = .ok (.iadd, 1) := by decide +kernel
theorem dX4_readNumber_42 : decode cX4_readNumber 42 = .ok (.putfield 68, 3) := by decide +kernel
theorem dX4_readNumber_45 : decode cX4_readNumber 45 = .ok (.aload_n 0, 1) := by decide +kernel
theorem dX4_readNumber_46 : decode cX4_readNumber 46 = .ok (.invokevirtual 74, 3) := by decide +kernel
theorem dX4_readNumber_49 : decode cX4_readNumber 49 = .ok (.invokestatic 86, 3) := by decide +kernel
theorem dX4_readNumber_52 : decode cX4_readNumber 52 = .ok (.ifCond .ne 26, 3) := by decide +kernel
theorem dX4_readNumber_55 : decode cX4_readNumber 55 = .ok (.iload 7, 2) := by decide +kernel
theorem dX4_readNumber_57 : decode cX4_readNumber 57 = .ok (.ifCond .eq 110, 3) := by decide +kernel
theorem dX4_readNumber_60 : decode cX4_readNumber 60 = .ok (.aload_n 0, 1) := by decide +kernel
theorem dX4_readNumber_61 : decode cX4_readNumber 61 = .ok (.invokevirtual 74, 3) := by decide +kernel
theorem dX4_readNumber_64 : decode cX4_readNumber 64 = .ok (.bipush 97, 2) := by decide +kernel
theorem dX4_readNumber_66 : decode cX4_readNumber 66 = .ok (.if_icmp .lt 101, 3) := by decide +kernel
theorem dX4_readNumber_69 : decode cX4_readNumber 69 = .ok (.aload_n 0, 1) := by decide +kernel
theorem dX4_readNumber_70 : decode cX4_readNumber 70 = .ok (.invokevirtual 74, 3) := by decide +kernel
theorem dX4_readNumber_73 : decode cX4_readNumber 73 = .ok (.bipush 102, 2) := by decide +kernel
theorem dX4_readNumber_75 : decode cX4_readNumber 75 = .ok (.if_icmp .gt 92, 3) := by decide +kernel
theorem dX4_readNumber_78 : decode cX4_readNumber 78 = .ok (.aload_n 0, 1) := by decide +kernel
theorem dX4_readNumber_79 : decode cX4_readNumber 79 = .ok (.invokevirtual 74, 3) := by decide +kernel
theorem dX4_readNumber_82 : decode cX4_readNumber 82 = .ok (.invokestatic 86, 3) := by decide +kernel
theorem dX4_readNumber_85 : decode cX4_readNumber 85 = .ok (.ifCond .eq 13, 3) := by decide +kernel
theorem dX4_readNumber_88 : decode cX4_readNumber 88 = .ok (.aload_n 0, 1) := by decide +kernel
theorem dX4_readNumber_89 : decode cX4_readNumber 89 = .ok (.invokevirtual 74, 3) := by decide +kernel
theorem dX4_readNumber_92 : decode cX4_readNumber 92 = .ok (.bipush 48, 2) := by decide +kernel
theorem dX4_readNumber_94 : decode cX4_readNumber 94 = .ok (.isub, 1) := by decide +kernel
theorem dX4_readNumber_95 : decode cX4_readNumber 95 = .ok (.goto 13, 3) := by decide +kernel
theorem dX4_readNumber_98 : decode cX4_readNumber 98 = .ok (.aload_n 0, 1) := by decide +kernel
theorem dX4_readNumber_99 : decode cX4_readNumber 99 = .ok (.invokevirtual 74, 3) := by decide +kernel
theorem dX4_readNumber_102 : decode cX4_readNumber 102 = .ok (.bipush 97, 2) := by decide +kernel
theorem dX4_readNumber_104 : decode cX4_readNumber 104 = .ok (.isub, 1) := by decide +kernel
theorem dX4_readNumber_105 : decode cX4_readNumber 105 = .ok (.bipush 10, 2) := by decide +kernel
theorem dX4_readNumber_107 : decode cX4_readNumber 107 = .ok (.iadd, 1) := by decide +kernel
theorem dX4_readNumber_108 : decode cX4_readNumber 108 = .ok (.istore 8, 2) := by decide +kernel
theorem dX4_readNumber_110 : decode cX4_readNumber 110 = .ok (.aload_n 0, 1) := by decide +kernel
theorem dX4_readNumber_111 : decode cX4_readNumber 111 = .ok (.iload 6, 2) := by decide +kernel
theorem dX4_readNumber_113 : decode cX4_readNumber 113 = .ok (.bipush 10, 2) := by decide +kernel
theorem dX4_readNumber_115 : decode cX4_readNumber 115 = .ok (.if_icmp .ge 29, 3) := by decide +kernel
theorem dX4_readNumber_118 : decode cX4_readNumber 118 = .ok (.iload 7, 2) := by decide +kernel
theorem dX4_readNumber_120 : decode cX4_readNumber 120 = .ok (.ifCond .eq 9, 3) := by decide +kernel
theorem dX4_readNumber_123 : decode cX4_readNumber 123 = .ok (.ldc2_w 90, 3) := by decide +kernel
theorem dX4_readNumber_126 : decode cX4_readNumber 126 = .ok (.goto 6, 3) := by decide +kernel
theorem dX4_readNumber_129 : decode cX4_readNumber 129 = .ok (.ldc2_w 92, 3) := by decide +kernel
theorem dX4_readNumber_132 : decode cX4_readNumber 132 = .ok (.aload_n 0, 1) := by decide +kernel
theorem dX4_readNumber_133 : decode cX4_readNumber 133 = .ok (.getfield 82, 3) := by decide +kernel
theorem dX4_readNumber_136 : decode cX4_readNumber 136 = .ok (.lmul, 1) := by decide +kernel
theorem dX4_readNumber_137 : decode cX4_readNumber 137 = .ok (.iload 8, 2) := by decide +kernel
theorem dX4_readNumber_139 : decode cX4_readNumber 139 = .ok (.i2l, 1) := by decide +kernel
theorem dX4_readNumber_140 : decode cX4_readNumber 140 = .ok (.ladd, 1) := by decide +kernel
theorem dX4_readNumber_141 : decode cX4_readNumber 141 = .ok (.goto 7, 3) := by decide +kernel
theorem dX4_readNumber_144 : decode cX4_readNumber 144 = .ok (.aload_n 0, 1) := by decide +kernel
theorem dX4_readNumber_145 : decode cX4_readNumber 145 = .ok (.getfield 82, 3) := by decide +kernel
theorem dX4_readNumber_148 : decode cX4_readNumber 148 = .ok (.putfield 82, 3) := by decide +kernel
theorem dX4_readNumber_151 : decode cX4_readNumber 151 = .ok (.iinc 6 1, 3) := by decide +kernel
theorem dX4_readNumber_154 : decode cX4_readNumber 154 = .ok (.aload_n 0, 1) := by decide +kernel
theorem dX4_readNumber_155 : decode cX4_readNumber 155 = .ok (.dup, 1) := by decide +kernel
theorem dX4_readNumber_156 : decode cX4_readNumber 156 = .ok (.getfield 68, 3) := by decide +kernel
theorem dX4_readNumber_159 : decode cX4_readNumber 159 = .ok (.iconst 1, 1) := by decide +kernel
theorem dX4_readNumber_160 : decode cX4_readNumber 160 = .ok (.iadd, 1) := by decide +kernel
theorem dX4_readNumber_161 : decode cX4_readNumber 161 = .ok (.putfield 68, 3) := by decide +kernel
theorem dX4_readNumber_164 : decode cX4_readNumber 164 = .ok (.goto (-119), 3) := by decide +kernel
theorem dX4_readNumber_167 : decode cX4_readNumber 167 = .ok (.iload 6, 2) := by decide +kernel
theorem dX4_readNumber_169 : decode cX4_readNumber 169 = .ok (.ifCond .ne 14, 3) := by decide +kernel
theorem dX4_readNumber_172 : decode cX4_readNumber 172 = .ok (.aload_n 0, 1) := by decide +kernel
theorem dX4_readNumber_173 : decode cX4_readNumber 173 = .ok (.aload_n 0, 1) := by decide +kernel
theorem dX4_readNumber_174 : decode cX4_readNumber 174 = .ok (.getfield 68, 3) := by decide +kernel
theorem dX4_readNumber_177 : decode cX4_readNumber 177 = .ok (.invokevirtual 78, 3) := by decide +kernel
theorem dX4_readNumber_180 : decode cX4_readNumber 180 = .ok (.goto 44, 3) := by decide +kernel
theorem dX4_readNumber_183 : decode cX4_readNumber 183 = .ok (.iload 6, 2) := by decide +kernel
theorem dX4_readNumber_185 : decode cX4_readNumber 185 = .ok (.iload 7, 2) := by decide +kernel
theorem dX4_readNumber_187 : decode cX4_readNumber 187 = .ok (.ifCond .eq 8, 3) := by decide +kernel
theorem dX4_readNumber_190 : decode cX4_readNumber 190 = .ok (.bipush 8, 2) := by decide +kernel
theorem dX4_readNumber_192 : decode cX4_readNumber 192 = .ok (.goto 5, 3) := by decide +kernel
theorem dX4_readNumber_195 : decode cX4_readNumber 195 = .ok (.bipush 10, 2) := by decide +kernel
theorem dX4_readNumber_197 : decode cX4_readNumber 197 = .ok (.if_icmp .gt 21, 3) := by decide +kernel
theorem dX4_readNumber_200 : decode cX4_readNumber 200 = .ok (.aload_n 0, 1) := by decide +kernel
theorem dX4_readNumber_201 : decode cX4_readNumber 201 = .ok (.getfield 82, 3) := by decide +kernel
theorem dX4_readNumber_204 : decode cX4_readNumber 204 = .ok (.lload_n 1, 1) := by decide +kernel
theorem dX4_readNumber_205 : decode cX4_readNumber 205 = .ok (.lcmp, 1) := by decide +kernel
theorem dX4_readNumber_206 : decode cX4_readNumber 206 = .ok (.ifCond .lt 12, 3) := by decide +kernel
theorem dX4_readNumber_209 : decode cX4_readNumber 209 = .ok (.aload_n 0, 1) := by decide +kernel
theorem dX4_readNumber_210 : decode cX4_readNumber 210 = .ok (.getfield 82, 3) := by decide +kernel
theorem dX4_readNumber_213 : decode cX4_readNumber 213 = .ok (.lload_n 3, 1) := by decide +kernel
theorem dX4_readNumber_214 : decode cX4_readNumber 214 = .ok (.lcmp, 1) := by decide +kernel
theorem dX4_readNumber_215 : decode cX4_readNumber 215 = .ok (.ifCond .le 9, 3) := by decide +kernel
theorem dX4_readNumber_218 : decode cX4_readNumber 218 = .ok (.aload_n 0, 1) := by decide +kernel
theorem dX4_readNumber_219 : decode cX4_readNumber 219 = .ok (.iload 5, 2) := by decide +kernel
theorem dX4_readNumber_221 : decode cX4_readNumber 221 = .ok (.invokevirtual 78, 3) := by decide +kernel
theorem dX4_readNumber_224 : decode cX4_readNumber 224 = .ok (.return_, 1) := by decide +kernel
theorem dX4_step_0 : decode cX4_step 0 = .ok (.aload_n 0, 1) := by decide +kernel
theorem dX4_step_1 : decode cX4_step 1 = .ok (.getfield 25, 3) := by decide +kernel
theorem dX4_step_4 : decode cX4_step 4 = .ok (.aload_n 0, 1) := by decide +kernel
theorem dX4_step_5 : decode cX4_step 5 = .ok (.getfield 94, 3) := by decide +kernel
theorem dX4_step_8 : decode cX4_step 8 = .ok (.iload_n 1, 1) := by decide +kernel
theorem dX4_step_9 : decode cX4_step 9 = .ok (.iastore, 1) := by decide +kernel
theorem dX4_step_10 : decode cX4_step 10 = .ok (.aload_n 0, 1) := by decide +kernel
theorem dX4_step_11 : decode cX4_step 11 = .ok (.getfield 28, 3) := by decide +kernel
theorem dX4_step_14 : decode cX4_step 14 = .ok (.aload_n 0, 1) := by decide +kernel
theorem dX4_step_15 : decode cX4_step 15 = .ok (.getfield 94, 3) := by decide +kernel
theorem dX4_step_18 : decode cX4_step 18 = .ok (.iload_n 2, 1) := by decide +kernel
theorem dX4_step_19 : decode cX4_step 19 = .ok (.iastore, 1) := by decide +kernel
theorem dX4_step_20 : decode cX4_step 20 = .ok (.aload_n 0, 1) := by decide +kernel
theorem dX4_step_21 : decode cX4_step 21 = .ok (.dup, 1) := by decide +kernel
theorem dX4_step_22 : decode cX4_step 22 = .ok (.getfield 94, 3) := by decide +kernel
theorem dX4_step_25 : decode cX4_step 25 = .ok (.iconst 1, 1) := by decide +kernel
theorem dX4_step_26 : decode cX4_step 26 = .ok (.iadd, 1) := by decide +kernel
theorem dX4_step_27 : decode cX4_step 27 = .ok (.putfield 94, 3) := by decide +kernel
theorem dX4_step_30 : decode cX4_step 30 = .ok (.return_, 1) := by decide +kernel
theorem dX4_push_0 : decode cX4_push 0 = .ok (.aload_n 0, 1) := by decide +kernel
theorem dX4_push_1 : decode cX4_push 1 = .ok (.getfield 37, 3) := by decide +kernel
theorem dX4_push_4 : decode cX4_push 4 = .ok (.aload_n 0, 1) := by decide +kernel
theorem dX4_push_5 : decode cX4_push 5 = .ok (.getfield 97, 3) := by decide +kernel
theorem dX4_push_8 : decode cX4_push 8 = .ok (.iload_n 1, 1) := by decide +kernel
theorem dX4_push_9 : decode cX4_push 9 = .ok (.iastore, 1) := by decide +kernel
theorem dX4_push_10 : decode cX4_push 10 = .ok (.aload_n 0, 1) := by decide +kernel
theorem dX4_push_11 : decode cX4_push 11 = .ok (.getfield 40, 3) := by decide +kernel
theorem dX4_push_14 : decode cX4_push 14 = .ok (.aload_n 0, 1) := by decide +kernel
theorem dX4_push_15 : decode cX4_push 15 = .ok (.getfield 97, 3) := by decide +kernel
theorem dX4_push_18 : decode cX4_push 18 = .ok (.iconst 0, 1) := by decide +kernel
theorem dX4_push_19 : decode cX4_push 19 = .ok (.iastore, 1) := by decide +kernel
theorem dX4_push_20 : decode cX4_push 20 = .ok (.aload_n 0, 1) := by decide +kernel
theorem dX4_push_21 : decode cX4_push 21 = .ok (.dup, 1) := by decide +kernel
theorem dX4_push_22 : decode cX4_push 22 = .ok (.getfield 97, 3) := by decide +kernel
theorem dX4_push_25 : decode cX4_push 25 = .ok (.iconst 1, 1) := by decide +kernel
theorem dX4_push_26 : decode cX4_push 26 = .ok (.iadd, 1) := by decide +kernel
theorem dX4_push_27 : decode cX4_push 27 = .ok (.putfield 97, 3) := by decide +kernel
theorem dX4_push_30 : decode cX4_push 30 = .ok (.return_, 1) := by decide +kernel
theorem dX4_settle_0 : decode cX4_settle 0 = .ok (.aload_n 0, 1) := by decide +kernel
theorem dX4_settle_1 : decode cX4_settle 1 = .ok (.getfield 43, 3) := by decide +kernel
theorem dX4_settle_4 : decode cX4_settle 4 = .ok (.aload_n 0, 1) := by decide +kernel
theorem dX4_settle_5 : decode cX4_settle 5 = .ok (.getfield 100, 3) := by decide +kernel
theorem dX4_settle_8 : decode cX4_settle 8 = .ok (.iload_n 1, 1) := by decide +kernel
theorem dX4_settle_9 : decode cX4_settle 9 = .ok (.bastore, 1) := by decide +kernel
theorem dX4_settle_10 : decode cX4_settle 10 = .ok (.aload_n 0, 1) := by decide +kernel
theorem dX4_settle_11 : decode cX4_settle 11 = .ok (.dup, 1) := by decide +kernel
theorem dX4_settle_12 : decode cX4_settle 12 = .ok (.getfield 100, 3) := by decide +kernel
theorem dX4_settle_15 : decode cX4_settle 15 = .ok (.iconst 1, 1) := by decide +kernel
theorem dX4_settle_16 : decode cX4_settle 16 = .ok (.iadd, 1) := by decide +kernel
theorem dX4_settle_17 : decode cX4_settle 17 = .ok (.putfield 100, 3) := by decide +kernel
theorem dX4_settle_20 : decode cX4_settle 20 = .ok (.return_, 1) := by decide +kernel
theorem dX4_isLoop_0 : decode cX4_isLoop 0 = .ok (.iconst 0, 1) := by decide +kernel
theorem dX4_isLoop_1 : decode cX4_isLoop 1 = .ok (.istore_n 2, 1) := by decide +kernel
theorem dX4_isLoop_2 : decode cX4_isLoop 2 = .ok (.iconst 0, 1) := by decide +kernel
theorem dX4_isLoop_3 : decode cX4_isLoop 3 = .ok (.istore_n 3, 1) := by decide +kernel
theorem dX4_isLoop_4 : decode cX4_isLoop 4 = .ok (.iload_n 3, 1) := by decide +kernel
theorem dX4_isLoop_5 : decode cX4_isLoop 5 = .ok (.aload_n 0, 1) := by decide +kernel
theorem dX4_isLoop_6 : decode cX4_isLoop 6 = .ok (.getfield 103, 3) := by decide +kernel
theorem dX4_isLoop_9 : decode cX4_isLoop 9 = .ok (.if_icmp .ge 29, 3) := by decide +kernel
theorem dX4_isLoop_12 : decode cX4_isLoop 12 = .ok (.iload_n 2, 1) := by decide +kernel
theorem dX4_isLoop_13 : decode cX4_isLoop 13 = .ok (.ifCond .ne 13, 3) := by decide +kernel
theorem dX4_isLoop_16 : decode cX4_isLoop 16 = .ok (.aload_n 0, 1) := by decide +kernel
theorem dX4_isLoop_17 : decode cX4_isLoop 17 = .ok (.getfield 47, 3) := by decide +kernel
theorem dX4_isLoop_20 : decode cX4_isLoop 20 = .ok (.iload_n 3, 1) := by decide +kernel
theorem dX4_isLoop_21 : decode cX4_isLoop 21 = .ok (.iaload, 1) := by decide +kernel
theorem dX4_isLoop_22 : decode cX4_isLoop 22 = .ok (.iload_n 1, 1) := by decide +kernel
theorem dX4_isLoop_23 : decode cX4_isLoop 23 = .ok (.if_icmp .ne 7, 3) := by decide +kernel
theorem dX4_isLoop_26 : decode cX4_isLoop 26 = .ok (.iconst 1, 1) := by decide +kernel
theorem dX4_isLoop_27 : decode cX4_isLoop 27 = .ok (.goto 4, 3) := by decide +kernel
theorem dX4_isLoop_30 : decode cX4_isLoop 30 = .ok (.iconst 0, 1) := by decide +kernel
theorem dX4_isLoop_31 : decode cX4_isLoop 31 = .ok (.istore_n 2, 1) := by decide +kernel
theorem dX4_isLoop_32 : decode cX4_isLoop 32 = .ok (.iinc 3 1, 3) := by decide +kernel
theorem dX4_isLoop_35 : decode cX4_isLoop 35 = .ok (.goto (-31), 3) := by decide +kernel
theorem dX4_isLoop_38 : decode cX4_isLoop 38 = .ok (.iload_n 2, 1) := by decide +kernel
theorem dX4_isLoop_39 : decode cX4_isLoop 39 = .ok (.ireturn, 1) := by decide +kernel
set_option maxRecDepth 20000 in
theorem ggX4_statement_X4_here : GoodIn wsX4_statement wsX4_here := goodIn_r _ [17, 2, 18, 19, 60, 61, 62, 63, 64, 65, 66, 67, 68, 69, 70, 71, 72, 73, 74, 75, 76, 77, 78, 79, 80, 81, 82, 83, 84, 85, 86, 87, 88, 89, 90, 91, 92] (by decide +kernel) (by decide +kernel)
set_option maxRecDepth 20000 in
theorem gX4_statement_X4_here : GoodIn wsX4_statement (wsV RX4 74 RX4 yX4_here wsX4_here) := goodIn_app (goodIn_of _ (by decide +kernel)) ggX4_statement_X4_here
set_option maxRecDepth 20000 in
theorem ggX4_statement_X4_step : GoodIn wsX4_statement wsX4_step := goodIn_r _ [23, 24, 6, 5, 60, 61, 62, 63, 64, 65, 66, 67, 68, 69, 70, 71, 72, 73, 74, 75, 76, 77, 78, 79, 80, 81, 82, 83, 84, 85, 86, 87, 88, 89, 90, 91, 92] (by decide +kernel) (by decide +kernel)
set_option maxRecDepth 20000 in
theorem gX4_statement_X4_step : GoodIn wsX4_statement (wsV RX4 106 RX4 yX4_step wsX4_step) := goodIn_app (goodIn_of _ (by decide +kernel)) ggX4_statement_X4_step
set_option maxRecDepth 20000 in
theorem ggX4_statement_X4_isLetter : GoodIn wsX4_statement wsX4_isLetter := goodIn_r _ [27] (by decide +kernel) (by decide +kernel)
set_option maxRecDepth 20000 in
theorem gX4_statement_X4_isLetter : GoodIn wsX4_statement (va_wsS RX4 113 yX4_isLetter wsX4_isLetter) := goodIn_app (goodIn_of _ (by decide +kernel)) ggX4_statement_X4_isLetter
set_option maxRecDepth 20000 in
theorem ggX4_statement_X4_isLoop : GoodIn wsX4_statement wsX4_isLoop := goodIn_r _ [31, 1, 3, 60, 61, 62, 63, 64, 65, 66, 67, 68, 69, 70, 71, 72, 73, 74, 75, 76, 77, 78, 79, 80, 81, 82, 83, 84, 85, 86, 87, 88, 89, 90, 91, 92] (by decide +kernel) (by decide +kernel)
set_option maxRecDepth 20000 in
theorem gX4_statement_X4_isLoop : GoodIn wsX4_statement (wsV RX4 119 RX4 yX4_isLoop wsX4_isLoop) := goodIn_app (goodIn_of _ (by decide +kernel)) ggX4_statement_X4_isLoop
set_option maxRecDepth 20000 in
theorem ggX4_statement_X4_wrong : GoodIn wsX4_statement wsX4_wrong := goodIn_r _ [35, 10, 60, 61, 62, 63, 64, 65, 66, 67, 68, 69, 70, 71, 72, 73, 74, 75, 76, 77, 78, 79, 80, 81, 82, 83, 84, 85, 86, 87, 88, 89, 90, 91, 92] (by decide +kernel) (by decide +kernel)
set_option maxRecDepth 20000 in
theorem gX4_statement_X4_wrong : GoodIn wsX4_statement (wsV RX4 78 RX4 yX4_wrong wsX4_wrong) := goodIn_app (goodIn_of _ (by decide +kernel)) ggX4_statement_X4_wrong
set_option maxRecDepth 20000 in
theorem ggX4_statement_X4_want : GoodIn wsX4_statement wsX4_want := goodIn_r _ [39, 2, 13, 14, 15, 16, 17, 18, 19, 32, 33, 34, 35, 10, 60, 61, 62, 63, 64, 65, 66, 67, 68, 69, 70, 71, 72, 73, 74, 75, 76, 77, 78, 79, 80, 81, 82, 83, 84, 85, 86, 87, 88, 89, 90, 91, 92] (by decide +kernel) (by decide +kernel)
set_option maxRecDepth 20000 in
theorem gX4_statement_X4_want : GoodIn wsX4_statement (wsV RX4 122 RX4 yX4_want wsX4_want) := goodIn_app (goodIn_of _ (by decide +kernel)) ggX4_statement_X4_want
set_option maxRecDepth 20000 in
theorem ggX4_statement_X4_push : GoodIn wsX4_statement wsX4_push := goodIn_r _ [43, 44, 45, 46, 60, 61, 62, 63, 64, 65, 66, 67, 68, 69, 70, 71, 72, 73, 74, 75, 76, 77, 78, 79, 80, 81, 82, 83, 84, 85, 86, 87, 88, 89, 90, 91, 92] (by decide +kernel) (by decide +kernel)
set_option maxRecDepth 20000 in
theorem gX4_statement_X4_push : GoodIn wsX4_statement (wsV RX4 125 RX4 yX4_push wsX4_push) := goodIn_app (goodIn_of _ (by decide +kernel)) ggX4_statement_X4_push
set_option maxRecDepth 20000 in
theorem ggX4_statement_X4_readNumber : GoodIn wsX4_statement wsX4_readNumber := goodIn_r _ [50, 2, 12, 51, 52, 13, 14, 15, 16, 17, 18, 19, 53, 54, 55, 32, 33, 34, 35, 10, 60, 61, 62, 63, 64, 65, 66, 67, 68, 69, 70, 71, 72, 73, 74, 75, 76, 77, 78, 79, 80, 81, 82, 83, 84, 85, 86, 87, 88, 89, 90, 91, 92] (by decide +kernel) (by decide +kernel)
set_option maxRecDepth 20000 in
theorem gX4_statement_X4_readNumber : GoodIn wsX4_statement (wsV RX4 130 RX4 yX4_readNumber wsX4_readNumber) := goodIn_app (goodIn_of _ (by decide +kernel)) ggX4_statement_X4_readNumber
set_option maxRecDepth 20000 in
theorem ggX4_statement_X4_block : GoodIn wsX4_statement wsX4_block := goodIn_r _ [59, 3, 1, 4, 11, 60, 61, 62, 63, 64, 65, 66, 67, 68, 69, 70, 71, 72, 73, 74, 75, 76, 77, 78, 79, 80, 81, 82, 83, 84, 85, 86, 87, 88, 89, 90, 91, 92] (by decide +kernel) (by decide +kernel)
set_option maxRecDepth 20000 in
theorem gX4_statement_X4_block : GoodIn wsX4_statement (wsV RX4 134 RX4 yX4_block wsX4_block) := goodIn_app (goodIn_of _ (by decide +kernel)) ggX4_statement_X4_block
theorem dX4_statement_0 : decode cX4_statement 0 = .ok (.aload_n 0, 1) := by decide +kernel
theorem dX4_statement_1 : decode cX4_statement 1 = .ok (.invokevirtual 74, 3) := by decide +kernel
theorem dX4_statement_4 : decode cX4_statement 4 = .ok (.istore_n 1, 1) := by decide +kernel
theorem dX4_statement_5 : decode cX4_statement 5 = .ok (.iload_n 1, 1) := by decide +kernel
theorem dX4_statement_6 : decode cX4_statement 6 = .ok (.bipush 125, 2) := by decide +kernel
theorem dX4_statement_8 : decode cX4_statement 8 = .ok (.if_icmp .ne 80, 3) := by decide +kernel
theorem dX4_statement_11 : decode cX4_statement 11 = .ok (.aload_n 0, 1) := by decide +kernel
theorem dX4_statement_12 : decode cX4_statement 12 = .ok (.getfield 103, 3) := by decide +kernel
theorem dX4_statement_15 : decode cX4_statement 15 = .ok (.ifCond .le 73, 3) := by decide +kernel
theorem dX4_statement_18 : decode cX4_statement 18 = .ok (.aload_n 0, 1) := by decide +kernel
theorem dX4_statement_19 : decode cX4_statement 19 = .ok (.dup, 1) := by decide +kernel
theorem dX4_statement_20 : decode cX4_statement 20 = .ok (.getfield 68, 3) := by decide +kernel
theorem dX4_statement_23 : decode cX4_statement 23 = .ok (.iconst 1, 1) := by decide +kernel
theorem dX4_statement_24 : decode cX4_statement 24 = .ok (.iadd, 1) := by decide +kernel
theorem dX4_statement_25 : decode cX4_statement 25 = .ok (.putfield 68, 3) := by decide +kernel
theorem dX4_statement_28 : decode cX4_statement 28 = .ok (.aload_n 0, 1) := by decide +kernel
theorem dX4_statement_29 : decode cX4_statement 29 = .ok (.dup, 1) := by decide +kernel
theorem dX4_statement_30 : decode cX4_statement 30 = .ok (.getfield 103, 3) := by decide +kernel
theorem dX4_statement_33 : decode cX4_statement 33 = .ok (.iconst 1, 1) := by decide +kernel
theorem dX4_statement_34 : decode cX4_statement 34 = .ok (.isub, 1) := by decide +kernel
theorem dX4_statement_35 : decode cX4_statement 35 = .ok (.putfield 103, 3) := by decide +kernel
theorem dX4_statement_38 : decode cX4_statement 38 = .ok (.aload_n 0, 1) := by decide +kernel
theorem dX4_statement_39 : decode cX4_statement 39 = .ok (.getfield 47, 3) := by decide +kernel
theorem dX4_statement_42 : decode cX4_statement 42 = .ok (.aload_n 0, 1) := by decide +kernel
theorem dX4_statement_43 : decode cX4_statement 43 = .ok (.getfield 103, 3) := by decide +kernel
theorem dX4_statement_46 : decode cX4_statement 46 = .ok (.iaload, 1) := by decide +kernel
theorem dX4_statement_47 : decode cX4_statement 47 = .ok (.ifCond .lt 21, 3) := by decide +kernel
theorem dX4_statement_50 : decode cX4_statement 50 = .ok (.aload_n 0, 1) := by decide +kernel
theorem dX4_statement_51 : decode cX4_statement 51 = .ok (.bipush 11, 2) := by decide +kernel
theorem dX4_statement_53 : decode cX4_statement 53 = .ok (.aload_n 0, 1) := by decide +kernel
theorem dX4_statement_54 : decode cX4_statement 54 = .ok (.getfield 50, 3) := by decide +kernel
theorem dX4_statement_57 : decode cX4_statement 57 = .ok (.aload_n 0, 1) := by decide +kernel
theorem dX4_statement_58 : decode cX4_statement 58 = .ok (.getfield 103, 3) := by decide +kernel
theorem dX4_statement_61 : decode cX4_statement 61 = .ok (.iaload, 1) := by decide +kernel
theorem dX4_statement_62 : decode cX4_statement 62 = .ok (.invokevirtual 106, 3) := by decide +kernel
theorem dX4_statement_65 : decode cX4_statement 65 = .ok (.goto 21, 3) := by decide +kernel
theorem dX4_statement_68 : decode cX4_statement 68 = .ok (.aload_n 0, 1) := by decide +kernel
theorem dX4_statement_69 : decode cX4_statement 69 = .ok (.getfield 28, 3) := by decide +kernel
theorem dX4_statement_72 : decode cX4_statement 72 = .ok (.aload_n 0, 1) := by decide +kernel
theorem dX4_statement_73 : decode cX4_statement 73 = .ok (.getfield 50, 3) := by decide +kernel
theorem dX4_statement_76 : decode cX4_statement 76 = .ok (.aload_n 0, 1) := by decide +kernel
theorem dX4_statement_77 : decode cX4_statement 77 = .ok (.getfield 103, 3) := by decide +kernel
theorem dX4_statement_80 : decode cX4_statement 80 = .ok (.iaload, 1) := by decide +kernel
theorem dX4_statement_81 : decode cX4_statement 81 = .ok (.aload_n 0, 1) := by decide +kernel
theorem dX4_statement_82 : decode cX4_statement 82 = .ok (.getfield 94, 3) := by decide +kernel
theorem dX4_statement_85 : decode cX4_statement 85 = .ok (.iastore, 1) := by decide +kernel
theorem dX4_statement_86 : decode cX4_statement 86 = .ok (.iconst 0, 1) := by decide +kernel
theorem dX4_statement_87 : decode cX4_statement 87 = .ok (.ireturn, 1) := by decide +kernel
theorem dX4_statement_88 : decode cX4_statement 88 = .ok (.aload_n 0, 1) := by decide +kernel
theorem dX4_statement_89 : decode cX4_statement 89 = .ok (.dup, 1) := by decide +kernel
theorem dX4_statement_90 : decode cX4_statement 90 = .ok (.getfield 110, 3) := by decide +kernel
theorem dX4_statement_93 : decode cX4_statement 93 = .ok (.iconst 1, 1) := by decide +kernel
theorem dX4_statement_94 : decode cX4_statement 94 = .ok (.iadd, 1) := by decide +kernel
theorem dX4_statement_95 : decode cX4_statement 95 = .ok (.putfield 110, 3) := by decide +kernel
theorem dX4_statement_98 : decode cX4_statement 98 = .ok (.iload_n 1, 1) := by decide +kernel
theorem dX4_statement_99 : decode cX4_statement 99 = .ok (.invokestatic 113, 3) := by decide +kernel
theorem dX4_statement_102 : decode cX4_statement 102 = .ok (.ifCond .eq 53, 3) := by decide +kernel
theorem dX4_statement_105 : decode cX4_statement 105 = .ok (.aload_n 0, 1) := by decide +kernel
theorem dX4_statement_106 : decode cX4_statement 106 = .ok (.iload_n 1, 1) := by decide +kernel
theorem dX4_statement_107 : decode cX4_statement 107 = .ok (.bipush 97, 2) := by decide +kernel
theorem dX4_statement_109 : decode cX4_statement 109 = .ok (.isub, 1) := by decide +kernel
theorem dX4_statement_110 : decode cX4_statement 110 = .ok (.putfield 116, 3) := by decide +kernel
theorem dX4_statement_113 : decode cX4_statement 113 = .ok (.aload_n 0, 1) := by decide +kernel
theorem dX4_statement_114 : decode cX4_statement 114 = .ok (.aload_n 0, 1) := by decide +kernel
theorem dX4_statement_115 : decode cX4_statement 115 = .ok (.getfield 116, 3) := by decide +kernel
theorem dX4_statement_118 : decode cX4_statement 118 = .ok (.invokevirtual 119, 3) := by decide +kernel
theorem dX4_statement_121 : decode cX4_statement 121 = .ok (.ifCond .eq 11, 3) := by decide +kernel
theorem dX4_statement_124 : decode cX4_statement 124 = .ok (.aload_n 0, 1) := by decide +kernel
theorem dX4_statement_125 : decode cX4_statement 125 = .ok (.aload_n 0, 1) := by decide +kernel
theorem dX4_statement_126 : decode cX4_statement 126 = .ok (.getfield 68, 3) := by decide +kernel
theorem dX4_statement_129 : decode cX4_statement 129 = .ok (.invokevirtual 78, 3) := by decide +kernel
theorem dX4_statement_132 : decode cX4_statement 132 = .ok (.aload_n 0, 1) := by decide +kernel
theorem dX4_statement_133 : decode cX4_statement 133 = .ok (.dup, 1) := by decide +kernel
theorem dX4_statement_134 : decode cX4_statement 134 = .ok (.getfield 68, 3) := by decide +kernel
theorem dX4_statement_137 : decode cX4_statement 137 = .ok (.iconst 1, 1) := by decide +kernel
theorem dX4_statement_138 : decode cX4_statement 138 = .ok (.iadd, 1) := by decide +kernel
theorem dX4_statement_139 : decode cX4_statement 139 = .ok (.putfield 68, 3) := by decide +kernel
theorem dX4_statement_142 : decode cX4_statement 142 = .ok (.aload_n 0, 1) := by decide +kernel
theorem dX4_statement_143 : decode cX4_statement 143 = .ok (.bipush 61, 2) := by decide +kernel
theorem dX4_statement_145 : decode cX4_statement 145 = .ok (.invokevirtual 122, 3) := by decide +kernel
theorem dX4_statement_148 : decode cX4_statement 148 = .ok (.aload_n 0, 1) := by decide +kernel
theorem dX4_statement_149 : decode cX4_statement 149 = .ok (.iconst 0, 1) := by decide +kernel
theorem dX4_statement_150 : decode cX4_statement 150 = .ok (.invokevirtual 125, 3) := by decide +kernel
theorem dX4_statement_153 : decode cX4_statement 153 = .ok (.iconst 1, 1) := by decide +kernel
theorem dX4_statement_154 : decode cX4_statement 154 = .ok (.ireturn, 1) := by decide +kernel
theorem dX4_statement_155 : decode cX4_statement 155 = .ok (.iload_n 1, 1) := by decide +kernel
theorem dX4_statement_156 : decode cX4_statement 156 = .ok (.bipush 64, 2) := by decide +kernel
theorem dX4_statement_158 : decode cX4_statement 158 = .ok (.if_icmp .ne 26, 3) := by decide +kernel
theorem dX4_statement_161 : decode cX4_statement 161 = .ok (.aload_n 0, 1) := by decide +kernel
theorem dX4_statement_162 : decode cX4_statement 162 = .ok (.dup, 1) := by decide +kernel
theorem dX4_statement_163 : decode cX4_statement 163 = .ok (.getfield 68, 3) := by decide +kernel
theorem dX4_statement_166 : decode cX4_statement 166 = .ok (.iconst 1, 1) := by decide +kernel
theorem dX4_statement_167 : decode cX4_statement 167 = .ok (.iadd, 1) := by decide +kernel
theorem dX4_statement_168 : decode cX4_statement 168 = .ok (.putfield 68, 3) := by decide +kernel
theorem dX4_statement_171 : decode cX4_statement 171 = .ok (.aload_n 0, 1) := by decide +kernel
theorem dX4_statement_172 : decode cX4_statement 172 = .ok (.bipush 91, 2) := by decide +kernel
theorem dX4_statement_174 : decode cX4_statement 174 = .ok (.invokevirtual 122, 3) := by decide +kernel
theorem dX4_statement_177 : decode cX4_statement 177 = .ok (.aload_n 0, 1) := by decide +kernel
theorem dX4_statement_178 : decode cX4_statement 178 = .ok (.iconst 1, 1) := by decide +kernel
theorem dX4_statement_179 : decode cX4_statement 179 = .ok (.invokevirtual 125, 3) := by decide +kernel
theorem dX4_statement_182 : decode cX4_statement 182 = .ok (.iconst 1, 1) := by decide +kernel
theorem dX4_statement_183 : decode cX4_statement 183 = .ok (.ireturn, 1) := by decide +kernel
theorem dX4_statement_184 : decode cX4_statement 184 = .ok (.iload_n 1, 1) := by decide +kernel
theorem dX4_statement_185 : decode cX4_statement 185 = .ok (.bipush 35, 2) := by decide +kernel
theorem dX4_statement_187 : decode cX4_statement 187 = .ok (.if_icmp .eq 9, 3) := by decide +kernel
theorem dX4_statement_190 : decode cX4_statement 190 = .ok (.iload_n 1, 1) := by decide +kernel
theorem dX4_statement_191 : decode cX4_statement 191 = .ok (.bipush 63, 2) := by decide +kernel
theorem dX4_statement_193 : decode cX4_statement 193 = .ok (.if_icmp .ne 12, 3) := by decide +kernel
theorem dX4_statement_196 : decode cX4_statement 196 = .ok (.aload_n 0, 1) := by decide +kernel
theorem dX4_statement_197 : decode cX4_statement 197 = .ok (.getfield 103, 3) := by decide +kernel
theorem dX4_statement_200 : decode cX4_statement 200 = .ok (.bipush 8, 2) := by decide +kernel
theorem dX4_statement_202 : decode cX4_statement 202 = .ok (.if_icmp .ne 13, 3) := by decide +kernel
theorem dX4_statement_205 : decode cX4_statement 205 = .ok (.aload_n 0, 1) := by decide +kernel
theorem dX4_statement_206 : decode cX4_statement 206 = .ok (.aload_n 0, 1) := by decide +kernel
theorem dX4_statement_207 : decode cX4_statement 207 = .ok (.getfield 68, 3) := by decide +kernel
theorem dX4_statement_210 : decode cX4_statement 210 = .ok (.invokevirtual 78, 3) := by decide +kernel
theorem dX4_statement_213 : decode cX4_statement 213 = .ok (.iconst 0, 1) := by decide +kernel
theorem dX4_statement_214 : decode cX4_statement 214 = .ok (.ireturn, 1) := by decide +kernel
theorem dX4_statement_215 : decode cX4_statement 215 = .ok (.aload_n 0, 1) := by decide +kernel
theorem dX4_statement_216 : decode cX4_statement 216 = .ok (.dup, 1) := by decide +kernel
theorem dX4_statement_217 : decode cX4_statement 217 = .ok (.getfield 68, 3) := by decide +kernel
theorem dX4_statement_220 : decode cX4_statement 220 = .ok (.iconst 1, 1) := by decide +kernel
theorem dX4_statement_221 : decode cX4_statement 221 = .ok (.iadd, 1) := by decide +kernel
theorem dX4_statement_222 : decode cX4_statement 222 = .ok (.putfield 68, 3) := by decide +kernel
theorem dX4_statement_225 : decode cX4_statement 225 = .ok (.iload_n 1, 1) := by decide +kernel
theorem dX4_statement_226 : decode cX4_statement 226 = .ok (.bipush 63, 2) := by decide +kernel
theorem dX4_statement_228 : decode cX4_statement 228 = .ok (.if_icmp .ne 10, 3) := by decide +kernel
theorem dX4_statement_231 : decode cX4_statement 231 = .ok (.aload_n 0, 1) := by decide +kernel
theorem dX4_statement_232 : decode cX4_statement 232 = .ok (.iconst 3, 1) := by decide +kernel
theorem dX4_statement_233 : decode cX4_statement 233 = .ok (.invokevirtual 125, 3) := by decide +kernel
theorem dX4_statement_236 : decode cX4_statement 236 = .ok (.iconst 1, 1) := by decide +kernel
theorem dX4_statement_237 : decode cX4_statement 237 = .ok (.ireturn, 1) := by decide +kernel
theorem dX4_statement_238 : decode cX4_statement 238 = .ok (.aload_n 0, 1) := by decide +kernel
theorem dX4_statement_239 : decode cX4_statement 239 = .ok (.invokevirtual 74, 3) := by decide +kernel
theorem dX4_statement_242 : decode cX4_statement 242 = .ok (.bipush 97, 2) := by decide +kernel
theorem dX4_statement_244 : decode cX4_statement 244 = .ok (.isub, 1) := by decide +kernel
theorem dX4_statement_245 : decode cX4_statement 245 = .ok (.istore_n 2, 1) := by decide +kernel
theorem dX4_statement_246 : decode cX4_statement 246 = .ok (.aload_n 0, 1) := by decide +kernel
theorem dX4_statement_247 : decode cX4_statement 247 = .ok (.invokevirtual 74, 3) := by decide +kernel
theorem dX4_statement_250 : decode cX4_statement 250 = .ok (.invokestatic 113, 3) := by decide +kernel
theorem dX4_statement_253 : decode cX4_statement 253 = .ok (.ifCond .eq 11, 3) := by decide +kernel
theorem dX4_statement_256 : decode cX4_statement 256 = .ok (.aload_n 0, 1) := by decide +kernel
theorem dX4_statement_257 : decode cX4_statement 257 = .ok (.iload_n 2, 1) := by decide +kernel
theorem dX4_statement_258 : decode cX4_statement 258 = .ok (.invokevirtual 119, 3) := by decide +kernel
theorem dX4_statement_261 : decode cX4_statement 261 = .ok (.ifCond .eq 11, 3) := by decide +kernel
theorem dX4_statement_264 : decode cX4_statement 264 = .ok (.aload_n 0, 1) := by decide +kernel
theorem dX4_statement_265 : decode cX4_statement 265 = .ok (.aload_n 0, 1) := by decide +kernel
theorem dX4_statement_266 : decode cX4_statement 266 = .ok (.getfield 68, 3) := by decide +kernel
theorem dX4_statement_269 : decode cX4_statement 269 = .ok (.invokevirtual 78, 3) := by decide +kernel
theorem dX4_statement_272 : decode cX4_statement 272 = .ok (.aload_n 0, 1) := by decide +kernel
theorem dX4_statement_273 : decode cX4_statement 273 = .ok (.dup, 1) := by decide +kernel
theorem dX4_statement_274 : decode cX4_statement 274 = .ok (.getfield 68, 3) := by decide +kernel
theorem dX4_statement_277 : decode cX4_statement 277 = .ok (.iconst 1, 1) := by decide +kernel
theorem dX4_statement_278 : decode cX4_statement 278 = .ok (.iadd, 1) := by decide +kernel
theorem dX4_statement_279 : decode cX4_statement 279 = .ok (.putfield 68, 3) := by decide +kernel
theorem dX4_statement_282 : decode cX4_statement 282 = .ok (.aload_n 0, 1) := by decide +kernel
theorem dX4_statement_283 : decode cX4_statement 283 = .ok (.getfield 68, 3) := by decide +kernel
theorem dX4_statement_286 : decode cX4_statement 286 = .ok (.istore_n 3, 1) := by decide +kernel
theorem dX4_statement_287 : decode cX4_statement 287 = .ok (.aload_n 0, 1) := by decide +kernel
theorem dX4_statement_288 : decode cX4_statement 288 = .ok (.lconst 1, 1) := by decide +kernel
theorem dX4_statement_289 : decode cX4_statement 289 = .ok (.ldc2_w 128, 3) := by decide +kernel
theorem dX4_statement_292 : decode cX4_statement 292 = .ok (.invokevirtual 130, 3) := by decide +kernel
theorem dX4_statement_295 : decode cX4_statement 295 = .ok (.aload_n 0, 1) := by decide +kernel
theorem dX4_statement_296 : decode cX4_statement 296 = .ok (.getfield 71, 3) := by decide +kernel
theorem dX4_statement_299 : decode cX4_statement 299 = .ok (.ifCond .ne 29, 3) := by decide +kernel
theorem dX4_statement_302 : decode cX4_statement 302 = .ok (.aload_n 0, 1) := by decide +kernel
theorem dX4_statement_303 : decode cX4_statement 303 = .ok (.getfield 53, 3) := by decide +kernel
theorem dX4_statement_306 : decode cX4_statement 306 = .ok (.aload_n 0, 1) := by decide +kernel
theorem dX4_statement_307 : decode cX4_statement 307 = .ok (.getfield 103, 3) := by decide +kernel
theorem dX4_statement_310 : decode cX4_statement 310 = .ok (.iaload, 1) := by decide +kernel
theorem dX4_statement_311 : decode cX4_statement 311 = .ok (.aload_n 0, 1) := by decide +kernel
theorem dX4_statement_312 : decode cX4_statement 312 = .ok (.getfield 82, 3) := by decide +kernel
theorem dX4_statement_315 : decode cX4_statement 315 = .ok (.l2i, 1) := by decide +kernel
theorem dX4_statement_316 : decode cX4_statement 316 = .ok (.imul, 1) := by decide +kernel
theorem dX4_statement_317 : decode cX4_statement 317 = .ok (.sipush 640, 3) := by decide +kernel
theorem dX4_statement_320 : decode cX4_statement 320 = .ok (.if_icmp .le 8, 3) := by decide +kernel
theorem dX4_statement_323 : decode cX4_statement 323 = .ok (.aload_n 0, 1) := by decide +kernel
theorem dX4_statement_324 : decode cX4_statement 324 = .ok (.iload_n 3, 1) := by decide +kernel
theorem dX4_statement_325 : decode cX4_statement 325 = .ok (.invokevirtual 78, 3) := by decide +kernel
theorem dX4_statement_328 : decode cX4_statement 328 = .ok (.aload_n 0, 1) := by decide +kernel
theorem dX4_statement_329 : decode cX4_statement 329 = .ok (.bipush 123, 2) := by decide +kernel
theorem dX4_statement_331 : decode cX4_statement 331 = .ok (.invokevirtual 122, 3) := by decide +kernel
theorem dX4_statement_334 : decode cX4_statement 334 = .ok (.aload_n 0, 1) := by decide +kernel
theorem dX4_statement_335 : decode cX4_statement 335 = .ok (.getfield 71, 3) := by decide +kernel
theorem dX4_statement_338 : decode cX4_statement 338 = .ok (.ifCond .ne 44, 3) := by decide +kernel
theorem dX4_statement_341 : decode cX4_statement 341 = .ok (.aload_n 0, 1) := by decide +kernel
theorem dX4_statement_342 : decode cX4_statement 342 = .ok (.bipush 10, 2) := by decide +kernel
theorem dX4_statement_344 : decode cX4_statement 344 = .ok (.iload_n 2, 1) := by decide +kernel
theorem dX4_statement_345 : decode cX4_statement 345 = .ok (.invokevirtual 106, 3) := by decide +kernel
theorem dX4_statement_348 : decode cX4_statement 348 = .ok (.aload_n 0, 1) := by decide +kernel
theorem dX4_statement_349 : decode cX4_statement 349 = .ok (.aload_n 0, 1) := by decide +kernel
theorem dX4_statement_350 : decode cX4_statement 350 = .ok (.getfield 82, 3) := by decide +kernel
theorem dX4_statement_353 : decode cX4_statement 353 = .ok (.l2i, 1) := by decide +kernel
theorem dX4_statement_354 : decode cX4_statement 354 = .ok (.iconst 0, 1) := by decide +kernel
theorem dX4_statement_355 : decode cX4_statement 355 = .ok (.invokevirtual 106, 3) := by decide +kernel
theorem dX4_statement_358 : decode cX4_statement 358 = .ok (.aload_n 0, 1) := by decide +kernel
theorem dX4_statement_359 : decode cX4_statement 359 = .ok (.iload_n 2, 1) := by decide +kernel
theorem dX4_statement_360 : decode cX4_statement 360 = .ok (.aload_n 0, 1) := by decide +kernel
theorem dX4_statement_361 : decode cX4_statement 361 = .ok (.getfield 94, 3) := by decide +kernel
theorem dX4_statement_364 : decode cX4_statement 364 = .ok (.aload_n 0, 1) := by decide +kernel
theorem dX4_statement_365 : decode cX4_statement 365 = .ok (.getfield 53, 3) := by decide +kernel
theorem dX4_statement_368 : decode cX4_statement 368 = .ok (.aload_n 0, 1) := by decide +kernel
theorem dX4_statement_369 : decode cX4_statement 369 = .ok (.getfield 103, 3) := by decide +kernel
theorem dX4_statement_372 : decode cX4_statement 372 = .ok (.iaload, 1) := by decide +kernel
theorem dX4_statement_373 : decode cX4_statement 373 = .ok (.aload_n 0, 1) := by decide +kernel
theorem dX4_statement_374 : decode cX4_statement 374 = .ok (.getfield 82, 3) := by decide +kernel
theorem dX4_statement_377 : decode cX4_statement 377 = .ok (.l2i, 1) := by decide +kernel
theorem dX4_statement_378 : decode cX4_statement 378 = .ok (.imul, 1) := by decide +kernel
theorem dX4_statement_379 : decode cX4_statement 379 = .ok (.invokevirtual 134, 3) := by decide +kernel
theorem dX4_statement_382 : decode cX4_statement 382 = .ok (.iconst 0, 1) := by decide +kernel
theorem dX4_statement_383 : decode cX4_statement 383 = .ok (.ireturn, 1) := by decide +kernel
theorem dX4_block_0 : decode cX4_block 0 = .ok (.aload_n 0, 1) := by decide +kernel
theorem dX4_block_1 : decode cX4_block 1 = .ok (.getfield 47, 3) := by decide +kernel
theorem dX4_block_4 : decode cX4_block 4 = .ok (.aload_n 0, 1) := by decide +kernel
theorem dX4_block_5 : decode cX4_block 5 = .ok (.getfield 103, 3) := by decide +kernel
theorem dX4_block_8 : decode cX4_block 8 = .ok (.iload_n 1, 1) := by decide +kernel
theorem dX4_block_9 : decode cX4_block 9 = .ok (.iastore, 1) := by decide +kernel
theorem dX4_block_10 : decode cX4_block 10 = .ok (.aload_n 0, 1) := by decide +kernel
theorem dX4_block_11 : decode cX4_block 11 = .ok (.getfield 50, 3) := by decide +kernel
theorem dX4_block_14 : decode cX4_block 14 = .ok (.aload_n 0, 1) := by decide +kernel
theorem dX4_block_15 : decode cX4_block 15 = .ok (.getfield 103, 3) := by decide +kernel
theorem dX4_block_18 : decode cX4_block 18 = .ok (.iload_n 2, 1) := by decide +kernel
theorem dX4_block_19 : decode cX4_block 19 = .ok (.iastore, 1) := by decide +kernel
theorem dX4_block_20 : decode cX4_block 20 = .ok (.aload_n 0, 1) := by decide +kernel
theorem dX4_block_21 : decode cX4_block 21 = .ok (.dup, 1) := by decide +kernel
theorem dX4_block_22 : decode cX4_block 22 = .ok (.getfield 103, 3) := by decide +kernel
theorem dX4_block_25 : decode cX4_block 25 = .ok (.iconst 1, 1) := by decide +kernel
theorem dX4_block_26 : decode cX4_block 26 = .ok (.iadd, 1) := by decide +kernel
theorem dX4_block_27 : decode cX4_block 27 = .ok (.putfield 103, 3) := by decide +kernel
theorem dX4_block_30 : decode cX4_block 30 = .ok (.aload_n 0, 1) := by decide +kernel
theorem dX4_block_31 : decode cX4_block 31 = .ok (.getfield 53, 3) := by decide +kernel
theorem dX4_block_34 : decode cX4_block 34 = .ok (.aload_n 0, 1) := by decide +kernel
theorem dX4_block_35 : decode cX4_block 35 = .ok (.getfield 103, 3) := by decide +kernel
theorem dX4_block_38 : decode cX4_block 38 = .ok (.iload_n 3, 1) := by decide +kernel
theorem dX4_block_39 : decode cX4_block 39 = .ok (.iastore, 1) := by decide +kernel
theorem dX4_block_40 : decode cX4_block 40 = .ok (.return_, 1) := by decide +kernel
set_option maxRecDepth 20000 in
theorem ggX4_factor_X4_here : GoodIn wsX4_factor wsX4_here := goodIn_r _ [9, 2, 10, 11, 58, 59, 60, 61, 62, 63, 64, 65, 66, 67, 68, 69, 70, 71, 72, 73, 74, 75, 76, 77, 78, 79, 80, 81, 82, 83, 84, 85, 86, 87, 88, 89, 90] (by decide +kernel) (by decide +kernel)
set_option maxRecDepth 20000 in
theorem gX4_factor_X4_here : GoodIn wsX4_factor (wsV RX4 74 RX4 yX4_here wsX4_here) := goodIn_app (goodIn_of _ (by decide +kernel)) ggX4_factor_X4_here
set_option maxRecDepth 20000 in
theorem ggX4_factor_X4_wrong : GoodIn wsX4_factor wsX4_wrong := goodIn_r _ [15, 16, 58, 59, 60, 61, 62, 63, 64, 65, 66, 67, 68, 69, 70, 71, 72, 73, 74, 75, 76, 77, 78, 79, 80, 81, 82, 83, 84, 85, 86, 87, 88, 89, 90] (by decide +kernel) (by decide +kernel)
set_option maxRecDepth 20000 in
theorem gX4_factor_X4_wrong : GoodIn wsX4_factor (wsV RX4 78 RX4 yX4_wrong wsX4_wrong) := goodIn_app (goodIn_of _ (by decide +kernel)) ggX4_factor_X4_wrong
set_option maxRecDepth 20000 in
theorem ggX4_factor_X4_push : GoodIn wsX4_factor wsX4_push := goodIn_r _ [20, 21, 22, 23, 58, 59, 60, 61, 62, 63, 64, 65, 66, 67, 68, 69, 70, 71, 72, 73, 74, 75, 76, 77, 78, 79, 80, 81, 82, 83, 84, 85, 86, 87, 88, 89, 90] (by decide +kernel) (by decide +kernel)
set_option maxRecDepth 20000 in
theorem gX4_factor_X4_push : GoodIn wsX4_factor (wsV RX4 125 RX4 yX4_push wsX4_push) := goodIn_app (goodIn_of _ (by decide +kernel)) ggX4_factor_X4_push
set_option maxRecDepth 20000 in
theorem ggX4_factor_X4_want : GoodIn wsX4_factor wsX4_want := goodIn_r _ [27, 2, 5, 6, 7, 8, 9, 10, 11, 12, 13, 14, 15, 16, 58, 59, 60, 61, 62, 63, 64, 65, 66, 67, 68, 69, 70, 71, 72, 73, 74, 75, 76, 77, 78, 79, 80, 81, 82, 83, 84, 85, 86, 87, 88, 89, 90] (by decide +kernel) (by decide +kernel)
set_option maxRecDepth 20000 in
theorem gX4_factor_X4_want : GoodIn wsX4_factor (wsV RX4 122 RX4 yX4_want wsX4_want) := goodIn_app (goodIn_of _ (by decide +kernel)) ggX4_factor_X4_want
set_option maxRecDepth 20000 in
theorem ggX4_factor_X4_isLetter : GoodIn wsX4_factor wsX4_isLetter := goodIn_r _ [30] (by decide +kernel) (by decide +kernel)
set_option maxRecDepth 20000 in
theorem gX4_factor_X4_isLetter : GoodIn wsX4_factor (va_wsS RX4 113 yX4_isLetter wsX4_isLetter) := goodIn_app (goodIn_of _ (by decide +kernel)) ggX4_factor_X4_isLetter
set_option maxRecDepth 20000 in
theorem ggX4_factor_X4_step : GoodIn wsX4_factor wsX4_step := goodIn_r _ [34, 35, 36, 37, 58, 59, 60, 61, 62, 63, 64, 65, 66, 67, 68, 69, 70, 71, 72, 73, 74, 75, 76, 77, 78, 79, 80, 81, 82, 83, 84, 85, 86, 87, 88, 89, 90] (by decide +kernel) (by decide +kernel)
set_option maxRecDepth 20000 in
theorem gX4_factor_X4_step : GoodIn wsX4_factor (wsV RX4 106 RX4 yX4_step wsX4_step) := goodIn_app (goodIn_of _ (by decide +kernel)) ggX4_factor_X4_step
set_option maxRecDepth 20000 in
theorem ggX4_factor_X4_settle : GoodIn wsX4_factor wsX4_settle := goodIn_r _ [41, 42, 43, 58, 59, 60, 61, 62, 63, 64, 65, 66, 67, 68, 69, 70, 71, 72, 73, 74, 75, 76, 77, 78, 79, 80, 81, 82, 83, 84, 85, 86, 87, 88, 89, 90] (by decide +kernel) (by decide +kernel)
set_option maxRecDepth 20000 in
theorem gX4_factor_X4_settle : GoodIn wsX4_factor (wsV RX4 141 RX4 yX4_settle wsX4_settle) := goodIn_app (goodIn_of _ (by decide +kernel)) ggX4_factor_X4_settle
set_option maxRecDepth 20000 in
theorem ggX4_factor_X4_isDigit : GoodIn wsX4_factor wsX4_isDigit := goodIn_r _ [46] (by decide +kernel) (by decide +kernel)
set_option maxRecDepth 20000 in
theorem gX4_factor_X4_isDigit : GoodIn wsX4_factor (va_wsS RX4 86 yX4_isDigit wsX4_isDigit) := goodIn_app (goodIn_of _ (by decide +kernel)) ggX4_factor_X4_isDigit
set_option maxRecDepth 20000 in
theorem ggX4_factor_X4_readNumber : GoodIn wsX4_factor wsX4_readNumber := goodIn_r _ [50, 2, 4, 51, 52, 5, 6, 7, 8, 9, 10, 11, 44, 45, 46, 12, 13, 14, 15, 16, 58, 59, 60, 61, 62, 63, 64, 65, 66, 67, 68, 69, 70, 71, 72, 73, 74, 75, 76, 77, 78, 79, 80, 81, 82, 83, 84, 85, 86, 87, 88, 89, 90] (by decide +kernel) (by decide +kernel)
set_option maxRecDepth 20000 in
theorem gX4_factor_X4_readNumber : GoodIn wsX4_factor (wsV RX4 130 RX4 yX4_readNumber wsX4_readNumber) := goodIn_app (goodIn_of _ (by decide +kernel)) ggX4_factor_X4_readNumber
set_option maxRecDepth 20000 in
theorem ggX4_factor_X4_whole : GoodIn wsX4_factor wsX4_whole := goodIn_r _ [56, 22, 21, 1, 42, 43, 57, 31, 32, 33, 8, 34, 35, 36, 37, 58, 59, 60, 61, 62, 63, 64, 65, 66, 67, 68, 69, 70, 71, 72, 73, 74, 75, 76, 77, 78, 79, 80, 81, 82, 83, 84, 85, 86, 87, 88, 89, 90] (by decide +kernel) (by decide +kernel)
set_option maxRecDepth 20000 in
theorem gX4_factor_X4_whole : GoodIn wsX4_factor (wsV RX4 147 RX4 yX4_whole wsX4_whole) := goodIn_app (goodIn_of _ (by decide +kernel)) ggX4_factor_X4_whole
theorem dX4_factor_0 : decode cX4_factor 0 = .ok (.aload_n 0, 1) := by decide +kernel
theorem dX4_factor_1 : decode cX4_factor 1 = .ok (.invokevirtual 74, 3) := by decide +kernel
theorem dX4_factor_4 : decode cX4_factor 4 = .ok (.istore_n 1, 1) := by decide +kernel
theorem dX4_factor_5 : decode cX4_factor 5 = .ok (.iload_n 1, 1) := by decide +kernel
theorem dX4_factor_6 : decode cX4_factor 6 = .ok (.bipush 40, 2) := by decide +kernel
theorem dX4_factor_8 : decode cX4_factor 8 = .ok (.if_icmp .eq 15, 3) := by decide +kernel
theorem dX4_factor_11 : decode cX4_factor 11 = .ok (.iload_n 1, 1) := by decide +kernel
theorem dX4_factor_12 : decode cX4_factor 12 = .ok (.bipush 126, 2) := by decide +kernel
theorem dX4_factor_14 : decode cX4_factor 14 = .ok (.if_icmp .eq 9, 3) := by decide +kernel
theorem dX4_factor_17 : decode cX4_factor 17 = .ok (.iload_n 1, 1) := by decide +kernel
theorem dX4_factor_18 : decode cX4_factor 18 = .ok (.bipush 64, 2) := by decide +kernel
theorem dX4_factor_20 : decode cX4_factor 20 = .ok (.if_icmp .ne 80, 3) := by decide +kernel
theorem dX4_factor_23 : decode cX4_factor 23 = .ok (.aload_n 0, 1) := by decide +kernel
theorem dX4_factor_24 : decode cX4_factor 24 = .ok (.getfield 138, 3) := by decide +kernel
theorem dX4_factor_27 : decode cX4_factor 27 = .ok (.bipush 12, 2) := by decide +kernel
theorem dX4_factor_29 : decode cX4_factor 29 = .ok (.if_icmp .ne 11, 3) := by decide +kernel
theorem dX4_factor_32 : decode cX4_factor 32 = .ok (.aload_n 0, 1) := by decide +kernel
theorem dX4_factor_33 : decode cX4_factor 33 = .ok (.aload_n 0, 1) := by decide +kernel
theorem dX4_factor_34 : decode cX4_factor 34 = .ok (.getfield 68, 3) := by decide +kernel
theorem dX4_factor_37 : decode cX4_factor 37 = .ok (.invokevirtual 78, 3) := by decide +kernel
theorem dX4_factor_40 : decode cX4_factor 40 = .ok (.aload_n 0, 1) := by decide +kernel
theorem dX4_factor_41 : decode cX4_factor 41 = .ok (.dup, 1) := by decide +kernel
theorem dX4_factor_42 : decode cX4_factor 42 = .ok (.getfield 138, 3) := by decide +kernel
theorem dX4_factor_45 : decode cX4_factor 45 = .ok (.iconst 1, 1) := by decide +kernel
theorem dX4_factor_46 : decode cX4_factor 46 = .ok (.iadd, 1) := by decide +kernel
theorem dX4_factor_47 : decode cX4_factor 47 = .ok (.putfield 138, 3) := by decide +kernel
theorem dX4_factor_50 : decode cX4_factor 50 = .ok (.aload_n 0, 1) := by decide +kernel
theorem dX4_factor_51 : decode cX4_factor 51 = .ok (.dup, 1) := by decide +kernel
theorem dX4_factor_52 : decode cX4_factor 52 = .ok (.getfield 68, 3) := by decide +kernel
theorem dX4_factor_55 : decode cX4_factor 55 = .ok (.iconst 1, 1) := by decide +kernel
theorem dX4_factor_56 : decode cX4_factor 56 = .ok (.iadd, 1) := by decide +kernel
theorem dX4_factor_57 : decode cX4_factor 57 = .ok (.putfield 68, 3) := by decide +kernel
theorem dX4_factor_60 : decode cX4_factor 60 = .ok (.aload_n 0, 1) := by decide +kernel
theorem dX4_factor_61 : decode cX4_factor 61 = .ok (.iload_n 1, 1) := by decide +kernel
theorem dX4_factor_62 : decode cX4_factor 62 = .ok (.bipush 40, 2) := by decide +kernel
theorem dX4_factor_64 : decode cX4_factor 64 = .ok (.if_icmp .ne 7, 3) := by decide +kernel
theorem dX4_factor_67 : decode cX4_factor 67 = .ok (.iconst 4, 1) := by decide +kernel
theorem dX4_factor_68 : decode cX4_factor 68 = .ok (.goto 15, 3) := by decide +kernel
theorem dX4_factor_71 : decode cX4_factor 71 = .ok (.iload_n 1, 1) := by decide +kernel
theorem dX4_factor_72 : decode cX4_factor 72 = .ok (.bipush 126, 2) := by decide +kernel
theorem dX4_factor_74 : decode cX4_factor 74 = .ok (.if_icmp .ne 8, 3) := by decide +kernel
theorem dX4_factor_77 : decode cX4_factor 77 = .ok (.bipush 6, 2) := by decide +kernel
theorem dX4_factor_79 : decode cX4_factor 79 = .ok (.goto 4, 3) := by decide +kernel
theorem dX4_factor_82 : decode cX4_factor 82 = .ok (.iconst 5, 1) := by decide +kernel
theorem dX4_factor_83 : decode cX4_factor 83 = .ok (.invokevirtual 125, 3) := by decide +kernel
theorem dX4_factor_86 : decode cX4_factor 86 = .ok (.iload_n 1, 1) := by decide +kernel
theorem dX4_factor_87 : decode cX4_factor 87 = .ok (.bipush 64, 2) := by decide +kernel
theorem dX4_factor_89 : decode cX4_factor 89 = .ok (.if_icmp .ne 9, 3) := by decide +kernel
theorem dX4_factor_92 : decode cX4_factor 92 = .ok (.aload_n 0, 1) := by decide +kernel
theorem dX4_factor_93 : decode cX4_factor 93 = .ok (.bipush 91, 2) := by decide +kernel
theorem dX4_factor_95 : decode cX4_factor 95 = .ok (.invokevirtual 122, 3) := by decide +kernel
theorem dX4_factor_98 : decode cX4_factor 98 = .ok (.iconst 1, 1) := by decide +kernel
theorem dX4_factor_99 : decode cX4_factor 99 = .ok (.ireturn, 1) := by decide +kernel
theorem dX4_factor_100 : decode cX4_factor 100 = .ok (.iload_n 1, 1) := by decide +kernel
theorem dX4_factor_101 : decode cX4_factor 101 = .ok (.invokestatic 113, 3) := by decide +kernel
theorem dX4_factor_104 : decode cX4_factor 104 = .ok (.ifCond .eq 30, 3) := by decide +kernel
theorem dX4_factor_107 : decode cX4_factor 107 = .ok (.aload_n 0, 1) := by decide +kernel
theorem dX4_factor_108 : decode cX4_factor 108 = .ok (.dup, 1) := by decide +kernel
theorem dX4_factor_109 : decode cX4_factor 109 = .ok (.getfield 68, 3) := by decide +kernel
theorem dX4_factor_112 : decode cX4_factor 112 = .ok (.iconst 1, 1) := by decide +kernel
theorem dX4_factor_113 : decode cX4_factor 113 = .ok (.iadd, 1) := by decide +kernel
