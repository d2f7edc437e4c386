theorem dX4_compile_200 : decode cX4_compile 200 = .ok (.aload_n 0, 1) := by decide +kernel
theorem dX4_compile_201 : decode cX4_compile 201 = .ok (.getfield 110, 3) := by decide +kernel
theorem dX4_compile_204 : decode cX4_compile 204 = .ok (.ireturn, 1) := by decide +kernel
theorem dX4_fault_0 : decode cX4_fault 0 = .ok (.aload_n 0, 1) := by decide +kernel
theorem dX4_fault_1 : decode cX4_fault 1 = .ok (.iconst 0, 1) := by decide +kernel
theorem dX4_fault_2 : decode cX4_fault 2 = .ok (.putfield 59, 3) := by decide +kernel
theorem dX4_fault_5 : decode cX4_fault 5 = .ok (.aload_n 0, 1) := by decide +kernel
theorem dX4_fault_6 : decode cX4_fault 6 = .ok (.getfield 71, 3) := by decide +kernel
theorem dX4_fault_9 : decode cX4_fault 9 = .ok (.ireturn, 1) := by decide +kernel
theorem dX4_work_0 : decode cX4_work 0 = .ok (.aload_n 0, 1) := by decide +kernel
theorem dX4_work_1 : decode cX4_work 1 = .ok (.iconst 0, 1) := by decide +kernel
theorem dX4_work_2 : decode cX4_work 2 = .ok (.putfield 59, 3) := by decide +kernel
theorem dX4_work_5 : decode cX4_work 5 = .ok (.aload_n 0, 1) := by decide +kernel
theorem dX4_work_6 : decode cX4_work 6 = .ok (.getfield 173, 3) := by decide +kernel
theorem dX4_work_9 : decode cX4_work 9 = .ok (.ifCond .eq 10, 3) := by decide +kernel
theorem dX4_work_12 : decode cX4_work 12 = .ok (.aload_n 0, 1) := by decide +kernel
theorem dX4_work_13 : decode cX4_work 13 = .ok (.getfield 170, 3) := by decide +kernel
theorem dX4_work_16 : decode cX4_work 16 = .ok (.goto 4, 3) := by decide +kernel
theorem dX4_work_19 : decode cX4_work 19 = .ok (.iconst 0, 1) := by decide +kernel
theorem dX4_work_20 : decode cX4_work 20 = .ok (.ireturn, 1) := by decide +kernel
theorem dX4_operated_0 : decode cX4_operated 0 = .ok (.iload_n 0, 1) := by decide +kernel
theorem dX4_operated_1 : decode cX4_operated 1 = .ok (.lookupswitch 71 #[(38, 63), (42, 59), (43, 51), (45, 55), (124, 67)], 51) := by decide +kernel
theorem dX4_operated_52 : decode cX4_operated 52 = .ok (.iload_n 1, 1) := by decide +kernel
theorem dX4_operated_53 : decode cX4_operated 53 = .ok (.iload_n 2, 1) := by decide +kernel
theorem dX4_operated_54 : decode cX4_operated 54 = .ok (.iadd, 1) := by decide +kernel
theorem dX4_operated_55 : decode cX4_operated 55 = .ok (.ireturn, 1) := by decide +kernel
theorem dX4_operated_56 : decode cX4_operated 56 = .ok (.iload_n 1, 1) := by decide +kernel
theorem dX4_operated_57 : decode cX4_operated 57 = .ok (.iload_n 2, 1) := by decide +kernel
theorem dX4_operated_58 : decode cX4_operated 58 = .ok (.isub, 1) := by decide +kernel
theorem dX4_operated_59 : decode cX4_operated 59 = .ok (.ireturn, 1) := by decide +kernel
theorem dX4_operated_60 : decode cX4_operated 60 = .ok (.iload_n 1, 1) := by decide +kernel
theorem dX4_operated_61 : decode cX4_operated 61 = .ok (.iload_n 2, 1) := by decide +kernel
theorem dX4_operated_62 : decode cX4_operated 62 = .ok (.imul, 1) := by decide +kernel
theorem dX4_operated_63 : decode cX4_operated 63 = .ok (.ireturn, 1) := by decide +kernel
theorem dX4_operated_64 : decode cX4_operated 64 = .ok (.iload_n 1, 1) := by decide +kernel
theorem dX4_operated_65 : decode cX4_operated 65 = .ok (.iload_n 2, 1) := by decide +kernel
theorem dX4_operated_66 : decode cX4_operated 66 = .ok (.iand, 1) := by decide +kernel
theorem dX4_operated_67 : decode cX4_operated 67 = .ok (.ireturn, 1) := by decide +kernel
theorem dX4_operated_68 : decode cX4_operated 68 = .ok (.iload_n 1, 1) := by decide +kernel
theorem dX4_operated_69 : decode cX4_operated 69 = .ok (.iload_n 2, 1) := by decide +kernel
theorem dX4_operated_70 : decode cX4_operated 70 = .ok (.ior, 1) := by decide +kernel
theorem dX4_operated_71 : decode cX4_operated 71 = .ok (.ireturn, 1) := by decide +kernel
theorem dX4_operated_72 : decode cX4_operated 72 = .ok (.iload_n 1, 1) := by decide +kernel
theorem dX4_operated_73 : decode cX4_operated 73 = .ok (.iload_n 2, 1) := by decide +kernel
theorem dX4_operated_74 : decode cX4_operated 74 = .ok (.ixor, 1) := by decide +kernel
theorem dX4_operated_75 : decode cX4_operated 75 = .ok (.ireturn, 1) := by decide +kernel
theorem dX4_turned_0 : decode cX4_turned 0 = .ok (.iload_n 0, 1) := by decide +kernel
theorem dX4_turned_1 : decode cX4_turned 1 = .ok (.iload_n 1, 1) := by decide +kernel
theorem dX4_turned_2 : decode cX4_turned 2 = .ok (.ishl, 1) := by decide +kernel
theorem dX4_turned_3 : decode cX4_turned 3 = .ok (.iload_n 0, 1) := by decide +kernel
theorem dX4_turned_4 : decode cX4_turned 4 = .ok (.bipush 32, 2) := by decide +kernel
theorem dX4_turned_6 : decode cX4_turned 6 = .ok (.iload_n 1, 1) := by decide +kernel
theorem dX4_turned_7 : decode cX4_turned 7 = .ok (.isub, 1) := by decide +kernel
theorem dX4_turned_8 : decode cX4_turned 8 = .ok (.iushr, 1) := by decide +kernel
theorem dX4_turned_9 : decode cX4_turned 9 = .ok (.ior, 1) := by decide +kernel
theorem dX4_turned_10 : decode cX4_turned 10 = .ok (.ireturn, 1) := by decide +kernel
theorem dX4_isAddress_0 : decode cX4_isAddress 0 = .ok (.iload_n 0, 1) := by decide +kernel
theorem dX4_isAddress_1 : decode cX4_isAddress 1 = .ok (.ifCond .lt 14, 3) := by decide +kernel
theorem dX4_isAddress_4 : decode cX4_isAddress 4 = .ok (.iload_n 0, 1) := by decide +kernel
theorem dX4_isAddress_5 : decode cX4_isAddress 5 = .ok (.sipush 192, 3) := by decide +kernel
theorem dX4_isAddress_8 : decode cX4_isAddress 8 = .ok (.if_icmp .ge 7, 3) := by decide +kernel
theorem dX4_isAddress_11 : decode cX4_isAddress 11 = .ok (.iconst 1, 1) := by decide +kernel
theorem dX4_isAddress_12 : decode cX4_isAddress 12 = .ok (.goto 4, 3) := by decide +kernel
theorem dX4_isAddress_15 : decode cX4_isAddress 15 = .ok (.iconst 0, 1) := by decide +kernel
theorem dX4_isAddress_16 : decode cX4_isAddress 16 = .ok (.ireturn, 1) := by decide +kernel
set_option maxRecDepth 20000 in
theorem ggX4_run_X4_end : GoodIn wsX4_run wsX4_end := goodIn_r _ [16, 6, 10, 5, 4, 2, 17, 18, 15, 19, 30, 31, 32, 33, 34, 35, 36, 37, 38, 39, 40, 41, 42, 43, 44, 45, 46, 47, 48, 49, 50, 51, 52, 53, 54, 55, 56, 57, 58, 59, 60, 61, 62] (by decide +kernel) (by decide +kernel)
set_option maxRecDepth 20000 in
theorem gX4_run_X4_end : GoodIn wsX4_run (wsV RX4 180 RX4 yX4_end wsX4_end) := goodIn_app (goodIn_of _ (by decide +kernel)) ggX4_run_X4_end
set_option maxRecDepth 20000 in
theorem ggX4_run_X4_reckon : GoodIn wsX4_run wsX4_reckon := goodIn_r _ [23, 10, 6, 5, 4, 2, 24, 25, 15, 26, 27, 28, 29, 17, 18, 19, 30, 31, 32, 33, 34, 35, 36, 37, 38, 39, 40, 41, 42, 43, 44, 45, 46, 47, 48, 49, 50, 51, 52, 53, 54, 55, 56, 57, 58, 59, 60, 61, 62] (by decide +kernel) (by decide +kernel)
set_option maxRecDepth 20000 in
theorem gX4_run_X4_reckon : GoodIn wsX4_run (wsV RX4 183 RX4 yX4_reckon wsX4_reckon) := goodIn_app (goodIn_of _ (by decide +kernel)) ggX4_run_X4_reckon
theorem dX4_run_0 : decode cX4_run 0 = .ok (.aload_n 0, 1) := by decide +kernel
theorem dX4_run_1 : decode cX4_run 1 = .ok (.aload_n 0, 1) := by decide +kernel
theorem dX4_run_2 : decode cX4_run 2 = .ok (.getfield 173, 3) := by decide +kernel
theorem dX4_run_5 : decode cX4_run 5 = .ok (.ifCond .eq 7, 3) := by decide +kernel
theorem dX4_run_8 : decode cX4_run 8 = .ok (.iconst 0, 1) := by decide +kernel
theorem dX4_run_9 : decode cX4_run 9 = .ok (.goto 4, 3) := by decide +kernel
theorem dX4_run_12 : decode cX4_run 12 = .ok (.iconst 1, 1) := by decide +kernel
theorem dX4_run_13 : decode cX4_run 13 = .ok (.putfield 59, 3) := by decide +kernel
theorem dX4_run_16 : decode cX4_run 16 = .ok (.aload_n 0, 1) := by decide +kernel
theorem dX4_run_17 : decode cX4_run 17 = .ok (.getfield 59, 3) := by decide +kernel
theorem dX4_run_20 : decode cX4_run 20 = .ok (.ifCond .le 5, 3) := by decide +kernel
theorem dX4_run_23 : decode cX4_run 23 = .ok (.iconst 0, 1) := by decide +kernel
theorem dX4_run_24 : decode cX4_run 24 = .ok (.ireturn, 1) := by decide +kernel
theorem dX4_run_25 : decode cX4_run 25 = .ok (.iconst 0, 1) := by decide +kernel
theorem dX4_run_26 : decode cX4_run 26 = .ok (.istore_n 1, 1) := by decide +kernel
theorem dX4_run_27 : decode cX4_run 27 = .ok (.iload_n 1, 1) := by decide +kernel
theorem dX4_run_28 : decode cX4_run 28 = .ok (.sipush 192, 3) := by decide +kernel
theorem dX4_run_31 : decode cX4_run 31 = .ok (.if_icmp .ge 21, 3) := by decide +kernel
theorem dX4_run_34 : decode cX4_run 34 = .ok (.aload_n 0, 1) := by decide +kernel
theorem dX4_run_35 : decode cX4_run 35 = .ok (.getfield 16, 3) := by decide +kernel
theorem dX4_run_38 : decode cX4_run 38 = .ok (.iload_n 1, 1) := by decide +kernel
theorem dX4_run_39 : decode cX4_run 39 = .ok (.aload_n 0, 1) := by decide +kernel
theorem dX4_run_40 : decode cX4_run 40 = .ok (.getfield 13, 3) := by decide +kernel
theorem dX4_run_43 : decode cX4_run 43 = .ok (.iload_n 1, 1) := by decide +kernel
theorem dX4_run_44 : decode cX4_run 44 = .ok (.iaload, 1) := by decide +kernel
theorem dX4_run_45 : decode cX4_run 45 = .ok (.iastore, 1) := by decide +kernel
theorem dX4_run_46 : decode cX4_run 46 = .ok (.iinc 1 1, 3) := by decide +kernel
theorem dX4_run_49 : decode cX4_run 49 = .ok (.goto (-22), 3) := by decide +kernel
theorem dX4_run_52 : decode cX4_run 52 = .ok (.iconst 0, 1) := by decide +kernel
theorem dX4_run_53 : decode cX4_run 53 = .ok (.istore_n 1, 1) := by decide +kernel
theorem dX4_run_54 : decode cX4_run 54 = .ok (.iload_n 1, 1) := by decide +kernel
theorem dX4_run_55 : decode cX4_run 55 = .ok (.bipush 26, 2) := by decide +kernel
theorem dX4_run_57 : decode cX4_run 57 = .ok (.if_icmp .ge 16, 3) := by decide +kernel
theorem dX4_run_60 : decode cX4_run 60 = .ok (.aload_n 0, 1) := by decide +kernel
theorem dX4_run_61 : decode cX4_run 61 = .ok (.getfield 19, 3) := by decide +kernel
theorem dX4_run_64 : decode cX4_run 64 = .ok (.iload_n 1, 1) := by decide +kernel
theorem dX4_run_65 : decode cX4_run 65 = .ok (.iconst 0, 1) := by decide +kernel
theorem dX4_run_66 : decode cX4_run 66 = .ok (.iastore, 1) := by decide +kernel
theorem dX4_run_67 : decode cX4_run 67 = .ok (.iinc 1 1, 3) := by decide +kernel
theorem dX4_run_70 : decode cX4_run 70 = .ok (.goto (-16), 3) := by decide +kernel
theorem dX4_run_73 : decode cX4_run 73 = .ok (.aload_n 0, 1) := by decide +kernel
theorem dX4_run_74 : decode cX4_run 74 = .ok (.iconst 0, 1) := by decide +kernel
theorem dX4_run_75 : decode cX4_run 75 = .ok (.putfield 177, 3) := by decide +kernel
theorem dX4_run_78 : decode cX4_run 78 = .ok (.iconst 0, 1) := by decide +kernel
theorem dX4_run_79 : decode cX4_run 79 = .ok (.istore_n 1, 1) := by decide +kernel
theorem dX4_run_80 : decode cX4_run 80 = .ok (.iconst 0, 1) := by decide +kernel
theorem dX4_run_81 : decode cX4_run 81 = .ok (.istore_n 2, 1) := by decide +kernel
theorem dX4_run_82 : decode cX4_run 82 = .ok (.iload_n 2, 1) := by decide +kernel
theorem dX4_run_83 : decode cX4_run 83 = .ok (.aload_n 0, 1) := by decide +kernel
theorem dX4_run_84 : decode cX4_run 84 = .ok (.getfield 167, 3) := by decide +kernel
theorem dX4_run_87 : decode cX4_run 87 = .ok (.if_icmp .ge 176, 3) := by decide +kernel
theorem dX4_run_90 : decode cX4_run 90 = .ok (.aload_n 0, 1) := by decide +kernel
theorem dX4_run_91 : decode cX4_run 91 = .ok (.getfield 59, 3) := by decide +kernel
theorem dX4_run_94 : decode cX4_run 94 = .ok (.ifCond .ne 169, 3) := by decide +kernel
theorem dX4_run_97 : decode cX4_run 97 = .ok (.aload_n 0, 1) := by decide +kernel
theorem dX4_run_98 : decode cX4_run 98 = .ok (.getfield 31, 3) := by decide +kernel
theorem dX4_run_101 : decode cX4_run 101 = .ok (.iload_n 2, 1) := by decide +kernel
theorem dX4_run_102 : decode cX4_run 102 = .ok (.iaload, 1) := by decide +kernel
theorem dX4_run_103 : decode cX4_run 103 = .ok (.istore_n 3, 1) := by decide +kernel
theorem dX4_run_104 : decode cX4_run 104 = .ok (.aload_n 0, 1) := by decide +kernel
theorem dX4_run_105 : decode cX4_run 105 = .ok (.getfield 34, 3) := by decide +kernel
theorem dX4_run_108 : decode cX4_run 108 = .ok (.iload_n 2, 1) := by decide +kernel
theorem dX4_run_109 : decode cX4_run 109 = .ok (.iaload, 1) := by decide +kernel
theorem dX4_run_110 : decode cX4_run 110 = .ok (.istore 4, 2) := by decide +kernel
theorem dX4_run_112 : decode cX4_run 112 = .ok (.iinc 2 1, 3) := by decide +kernel
theorem dX4_run_115 : decode cX4_run 115 = .ok (.iload_n 3, 1) := by decide +kernel
theorem dX4_run_116 : decode cX4_run 116 = .ok (.bipush 10, 2) := by decide +kernel
theorem dX4_run_118 : decode cX4_run 118 = .ok (.if_icmp .ne 17, 3) := by decide +kernel
theorem dX4_run_121 : decode cX4_run 121 = .ok (.aload_n 0, 1) := by decide +kernel
theorem dX4_run_122 : decode cX4_run 122 = .ok (.getfield 19, 3) := by decide +kernel
theorem dX4_run_125 : decode cX4_run 125 = .ok (.iload 4, 2) := by decide +kernel
theorem dX4_run_127 : decode cX4_run 127 = .ok (.iconst 0, 1) := by decide +kernel
theorem dX4_run_128 : decode cX4_run 128 = .ok (.iastore, 1) := by decide +kernel
theorem dX4_run_129 : decode cX4_run 129 = .ok (.iinc 2 1, 3) := by decide +kernel
theorem dX4_run_132 : decode cX4_run 132 = .ok (.goto 128, 3) := by decide +kernel
theorem dX4_run_135 : decode cX4_run 135 = .ok (.iload_n 3, 1) := by decide +kernel
theorem dX4_run_136 : decode cX4_run 136 = .ok (.bipush 11, 2) := by decide +kernel
theorem dX4_run_138 : decode cX4_run 138 = .ok (.if_icmp .ne 52, 3) := by decide +kernel
theorem dX4_run_141 : decode cX4_run 141 = .ok (.aload_n 0, 1) := by decide +kernel
theorem dX4_run_142 : decode cX4_run 142 = .ok (.getfield 34, 3) := by decide +kernel
theorem dX4_run_145 : decode cX4_run 145 = .ok (.iload 4, 2) := by decide +kernel
theorem dX4_run_147 : decode cX4_run 147 = .ok (.iconst 2, 1) := by decide +kernel
theorem dX4_run_148 : decode cX4_run 148 = .ok (.isub, 1) := by decide +kernel
theorem dX4_run_149 : decode cX4_run 149 = .ok (.iaload, 1) := by decide +kernel
theorem dX4_run_150 : decode cX4_run 150 = .ok (.istore 5, 2) := by decide +kernel
theorem dX4_run_152 : decode cX4_run 152 = .ok (.aload_n 0, 1) := by decide +kernel
theorem dX4_run_153 : decode cX4_run 153 = .ok (.getfield 19, 3) := by decide +kernel
theorem dX4_run_156 : decode cX4_run 156 = .ok (.iload 5, 2) := by decide +kernel
theorem dX4_run_158 : decode cX4_run 158 = .ok (.iaload, 1) := by decide +kernel
theorem dX4_run_159 : decode cX4_run 159 = .ok (.iconst 1, 1) := by decide +kernel
theorem dX4_run_160 : decode cX4_run 160 = .ok (.iadd, 1) := by decide +kernel
theorem dX4_run_161 : decode cX4_run 161 = .ok (.aload_n 0, 1) := by decide +kernel
theorem dX4_run_162 : decode cX4_run 162 = .ok (.getfield 31, 3) := by decide +kernel
theorem dX4_run_165 : decode cX4_run 165 = .ok (.iload 4, 2) := by decide +kernel
theorem dX4_run_167 : decode cX4_run 167 = .ok (.iconst 1, 1) := by decide +kernel
theorem dX4_run_168 : decode cX4_run 168 = .ok (.isub, 1) := by decide +kernel
theorem dX4_run_169 : decode cX4_run 169 = .ok (.iaload, 1) := by decide +kernel
theorem dX4_run_170 : decode cX4_run 170 = .ok (.if_icmp .ge 17, 3) := by decide +kernel
theorem dX4_run_173 : decode cX4_run 173 = .ok (.aload_n 0, 1) := by decide +kernel
theorem dX4_run_174 : decode cX4_run 174 = .ok (.getfield 19, 3) := by decide +kernel
theorem dX4_run_177 : decode cX4_run 177 = .ok (.iload 5, 2) := by decide +kernel
theorem dX4_run_179 : decode cX4_run 179 = .ok (.dup2, 1) := by decide +kernel
theorem dX4_run_180 : decode cX4_run 180 = .ok (.iaload, 1) := by decide +kernel
theorem dX4_run_181 : decode cX4_run 181 = .ok (.iconst 1, 1) := by decide +kernel
theorem dX4_run_182 : decode cX4_run 182 = .ok (.iadd, 1) := by decide +kernel
theorem dX4_run_183 : decode cX4_run 183 = .ok (.iastore, 1) := by decide +kernel
theorem dX4_run_184 : decode cX4_run 184 = .ok (.iload 4, 2) := by decide +kernel
theorem dX4_run_186 : decode cX4_run 186 = .ok (.istore_n 2, 1) := by decide +kernel
theorem dX4_run_187 : decode cX4_run 187 = .ok (.goto 73, 3) := by decide +kernel
theorem dX4_run_190 : decode cX4_run 190 = .ok (.iload_n 3, 1) := by decide +kernel
theorem dX4_run_191 : decode cX4_run 191 = .ok (.bipush 9, 2) := by decide +kernel
theorem dX4_run_193 : decode cX4_run 193 = .ok (.if_icmp .ne 35, 3) := by decide +kernel
theorem dX4_run_196 : decode cX4_run 196 = .ok (.aload_n 0, 1) := by decide +kernel
theorem dX4_run_197 : decode cX4_run 197 = .ok (.dup, 1) := by decide +kernel
theorem dX4_run_198 : decode cX4_run 198 = .ok (.getfield 177, 3) := by decide +kernel
theorem dX4_run_201 : decode cX4_run 201 = .ok (.iconst 1, 1) := by decide +kernel
theorem dX4_run_202 : decode cX4_run 202 = .ok (.isub, 1) := by decide +kernel
theorem dX4_run_203 : decode cX4_run 203 = .ok (.putfield 177, 3) := by decide +kernel
theorem dX4_run_206 : decode cX4_run 206 = .ok (.aload_n 0, 1) := by decide +kernel
theorem dX4_run_207 : decode cX4_run 207 = .ok (.getfield 56, 3) := by decide +kernel
theorem dX4_run_210 : decode cX4_run 210 = .ok (.aload_n 0, 1) := by decide +kernel
theorem dX4_run_211 : decode cX4_run 211 = .ok (.getfield 177, 3) := by decide +kernel
theorem dX4_run_214 : decode cX4_run 214 = .ok (.iaload, 1) := by decide +kernel
theorem dX4_run_215 : decode cX4_run 215 = .ok (.ifCond .ne 8, 3) := by decide +kernel
theorem dX4_run_218 : decode cX4_run 218 = .ok (.iload 4, 2) := by decide +kernel
theorem dX4_run_220 : decode cX4_run 220 = .ok (.goto 4, 3) := by decide +kernel
theorem dX4_run_223 : decode cX4_run 223 = .ok (.iload_n 2, 1) := by decide +kernel
theorem dX4_run_224 : decode cX4_run 224 = .ok (.istore_n 2, 1) := by decide +kernel
theorem dX4_run_225 : decode cX4_run 225 = .ok (.goto 35, 3) := by decide +kernel
theorem dX4_run_228 : decode cX4_run 228 = .ok (.iload_n 3, 1) := by decide +kernel
theorem dX4_run_229 : decode cX4_run 229 = .ok (.bipush 7, 2) := by decide +kernel
theorem dX4_run_231 : decode cX4_run 231 = .ok (.if_icmp .eq 9, 3) := by decide +kernel
theorem dX4_run_234 : decode cX4_run 234 = .ok (.iload_n 3, 1) := by decide +kernel
theorem dX4_run_235 : decode cX4_run 235 = .ok (.bipush 8, 2) := by decide +kernel
theorem dX4_run_237 : decode cX4_run 237 = .ok (.if_icmp .ne 16, 3) := by decide +kernel
theorem dX4_run_240 : decode cX4_run 240 = .ok (.iinc 1 1, 3) := by decide +kernel
theorem dX4_run_243 : decode cX4_run 243 = .ok (.aload_n 0, 1) := by decide +kernel
theorem dX4_run_244 : decode cX4_run 244 = .ok (.iload_n 3, 1) := by decide +kernel
theorem dX4_run_245 : decode cX4_run 245 = .ok (.iload 4, 2) := by decide +kernel
theorem dX4_run_247 : decode cX4_run 247 = .ok (.invokevirtual 180, 3) := by decide +kernel
theorem dX4_run_250 : decode cX4_run 250 = .ok (.goto 10, 3) := by decide +kernel
theorem dX4_run_253 : decode cX4_run 253 = .ok (.aload_n 0, 1) := by decide +kernel
theorem dX4_run_254 : decode cX4_run 254 = .ok (.iload_n 3, 1) := by decide +kernel
theorem dX4_run_255 : decode cX4_run 255 = .ok (.iload 4, 2) := by decide +kernel
theorem dX4_run_257 : decode cX4_run 257 = .ok (.invokevirtual 183, 3) := by decide +kernel
theorem dX4_run_260 : decode cX4_run 260 = .ok (.goto (-178), 3) := by decide +kernel
theorem dX4_run_263 : decode cX4_run 263 = .ok (.aload_n 0, 1) := by decide +kernel
theorem dX4_run_264 : decode cX4_run 264 = .ok (.getfield 59, 3) := by decide +kernel
theorem dX4_run_267 : decode cX4_run 267 = .ok (.ifCond .le 32, 3) := by decide +kernel
theorem dX4_run_270 : decode cX4_run 270 = .ok (.iconst 0, 1) := by decide +kernel
theorem dX4_run_271 : decode cX4_run 271 = .ok (.istore_n 3, 1) := by decide +kernel
theorem dX4_run_272 : decode cX4_run 272 = .ok (.iload_n 3, 1) := by decide +kernel
theorem dX4_run_273 : decode cX4_run 273 = .ok (.sipush 192, 3) := by decide +kernel
theorem dX4_run_276 : decode cX4_run 276 = .ok (.if_icmp .ge 21, 3) := by decide +kernel
theorem dX4_run_279 : decode cX4_run 279 = .ok (.aload_n 0, 1) := by decide +kernel
theorem dX4_run_280 : decode cX4_run 280 = .ok (.getfield 13, 3) := by decide +kernel
theorem dX4_run_283 : decode cX4_run 283 = .ok (.iload_n 3, 1) := by decide +kernel
theorem dX4_run_284 : decode cX4_run 284 = .ok (.aload_n 0, 1) := by decide +kernel
theorem dX4_run_285 : decode cX4_run 285 = .ok (.getfield 16, 3) := by decide +kernel
theorem dX4_run_288 : decode cX4_run 288 = .ok (.iload_n 3, 1) := by decide +kernel
theorem dX4_run_289 : decode cX4_run 289 = .ok (.iaload, 1) := by decide +kernel
theorem dX4_run_290 : decode cX4_run 290 = .ok (.iastore, 1) := by decide +kernel
theorem dX4_run_291 : decode cX4_run 291 = .ok (.iinc 3 1, 3) := by decide +kernel
theorem dX4_run_294 : decode cX4_run 294 = .ok (.goto (-22), 3) := by decide +kernel
theorem dX4_run_297 : decode cX4_run 297 = .ok (.iconst 0, 1) := by decide +kernel
theorem dX4_run_298 : decode cX4_run 298 = .ok (.ireturn, 1) := by decide +kernel
theorem dX4_run_299 : decode cX4_run 299 = .ok (.iconst 0, 1) := by decide +kernel
theorem dX4_run_300 : decode cX4_run 300 = .ok (.istore_n 3, 1) := by decide +kernel
theorem dX4_run_301 : decode cX4_run 301 = .ok (.iload_n 3, 1) := by decide +kernel
theorem dX4_run_302 : decode cX4_run 302 = .ok (.bipush 26, 2) := by decide +kernel
theorem dX4_run_304 : decode cX4_run 304 = .ok (.if_icmp .ge 21, 3) := by decide +kernel
theorem dX4_run_307 : decode cX4_run 307 = .ok (.aload_n 0, 1) := by decide +kernel
theorem dX4_run_308 : decode cX4_run 308 = .ok (.getfield 22, 3) := by decide +kernel
theorem dX4_run_311 : decode cX4_run 311 = .ok (.iload_n 3, 1) := by decide +kernel
theorem dX4_run_312 : decode cX4_run 312 = .ok (.aload_n 0, 1) := by decide +kernel
theorem dX4_run_313 : decode cX4_run 313 = .ok (.getfield 19, 3) := by decide +kernel
theorem dX4_run_316 : decode cX4_run 316 = .ok (.iload_n 3, 1) := by decide +kernel
theorem dX4_run_317 : decode cX4_run 317 = .ok (.iaload, 1) := by decide +kernel
theorem dX4_run_318 : decode cX4_run 318 = .ok (.iastore, 1) := by decide +kernel
theorem dX4_run_319 : decode cX4_run 319 = .ok (.iinc 3 1, 3) := by decide +kernel
theorem dX4_run_322 : decode cX4_run 322 = .ok (.goto (-21), 3) := by decide +kernel
theorem dX4_run_325 : decode cX4_run 325 = .ok (.iload_n 1, 1) := by decide +kernel
theorem dX4_run_326 : decode cX4_run 326 = .ok (.ireturn, 1) := by decide +kernel
set_option maxRecDepth 20000 in
theorem ggX4_end_X4_isAddress : GoodIn wsX4_end wsX4_isAddress := goodIn_r _ [9] (by decide +kernel) (by decide +kernel)
set_option maxRecDepth 20000 in
theorem gX4_end_X4_isAddress : GoodIn wsX4_end (va_wsS RX4 186 yX4_isAddress wsX4_isAddress) := goodIn_app (goodIn_of _ (by decide +kernel)) ggX4_end_X4_isAddress
theorem dX4_end_0 : decode cX4_end 0 = .ok (.aload_n 0, 1) := by decide +kernel
theorem dX4_end_1 : decode cX4_end 1 = .ok (.dup, 1) := by decide +kernel
theorem dX4_end_2 : decode cX4_end 2 = .ok (.getfield 177, 3) := by decide +kernel
theorem dX4_end_5 : decode cX4_end 5 = .ok (.iconst 1, 1) := by decide +kernel
theorem dX4_end_6 : decode cX4_end 6 = .ok (.isub, 1) := by decide +kernel
theorem dX4_end_7 : decode cX4_end 7 = .ok (.putfield 177, 3) := by decide +kernel
theorem dX4_end_10 : decode cX4_end 10 = .ok (.aload_n 0, 1) := by decide +kernel
theorem dX4_end_11 : decode cX4_end 11 = .ok (.getfield 56, 3) := by decide +kernel
theorem dX4_end_14 : decode cX4_end 14 = .ok (.aload_n 0, 1) := by decide +kernel
theorem dX4_end_15 : decode cX4_end 15 = .ok (.getfield 177, 3) := by decide +kernel
theorem dX4_end_18 : decode cX4_end 18 = .ok (.iaload, 1) := by decide +kernel
theorem dX4_end_19 : decode cX4_end 19 = .ok (.istore_n 3, 1) := by decide +kernel
theorem dX4_end_20 : decode cX4_end 20 = .ok (.iload_n 1, 1) := by decide +kernel
theorem dX4_end_21 : decode cX4_end 21 = .ok (.bipush 7, 2) := by decide +kernel
theorem dX4_end_23 : decode cX4_end 23 = .ok (.if_icmp .ne 11, 3) := by decide +kernel
theorem dX4_end_26 : decode cX4_end 26 = .ok (.aload_n 0, 1) := by decide +kernel
theorem dX4_end_27 : decode cX4_end 27 = .ok (.getfield 19, 3) := by decide +kernel
theorem dX4_end_30 : decode cX4_end 30 = .ok (.iload_n 2, 1) := by decide +kernel
theorem dX4_end_31 : decode cX4_end 31 = .ok (.iload_n 3, 1) := by decide +kernel
theorem dX4_end_32 : decode cX4_end 32 = .ok (.iastore, 1) := by decide +kernel
theorem dX4_end_33 : decode cX4_end 33 = .ok (.return_, 1) := by decide +kernel
theorem dX4_end_34 : decode cX4_end 34 = .ok (.aload_n 0, 1) := by decide +kernel
theorem dX4_end_35 : decode cX4_end 35 = .ok (.dup, 1) := by decide +kernel
theorem dX4_end_36 : decode cX4_end 36 = .ok (.getfield 177, 3) := by decide +kernel
theorem dX4_end_39 : decode cX4_end 39 = .ok (.iconst 1, 1) := by decide +kernel
theorem dX4_end_40 : decode cX4_end 40 = .ok (.isub, 1) := by decide +kernel
theorem dX4_end_41 : decode cX4_end 41 = .ok (.putfield 177, 3) := by decide +kernel
theorem dX4_end_44 : decode cX4_end 44 = .ok (.aload_n 0, 1) := by decide +kernel
theorem dX4_end_45 : decode cX4_end 45 = .ok (.getfield 56, 3) := by decide +kernel
theorem dX4_end_48 : decode cX4_end 48 = .ok (.aload_n 0, 1) := by decide +kernel
theorem dX4_end_49 : decode cX4_end 49 = .ok (.getfield 177, 3) := by decide +kernel
theorem dX4_end_52 : decode cX4_end 52 = .ok (.iaload, 1) := by decide +kernel
theorem dX4_end_53 : decode cX4_end 53 = .ok (.invokestatic 186, 3) := by decide +kernel
theorem dX4_end_56 : decode cX4_end 56 = .ok (.ifCond .eq 21, 3) := by decide +kernel
theorem dX4_end_59 : decode cX4_end 59 = .ok (.aload_n 0, 1) := by decide +kernel
theorem dX4_end_60 : decode cX4_end 60 = .ok (.getfield 13, 3) := by decide +kernel
theorem dX4_end_63 : decode cX4_end 63 = .ok (.aload_n 0, 1) := by decide +kernel
theorem dX4_end_64 : decode cX4_end 64 = .ok (.getfield 56, 3) := by decide +kernel
theorem dX4_end_67 : decode cX4_end 67 = .ok (.aload_n 0, 1) := by decide +kernel
theorem dX4_end_68 : decode cX4_end 68 = .ok (.getfield 177, 3) := by decide +kernel
theorem dX4_end_71 : decode cX4_end 71 = .ok (.iaload, 1) := by decide +kernel
theorem dX4_end_72 : decode cX4_end 72 = .ok (.iload_n 3, 1) := by decide +kernel
theorem dX4_end_73 : decode cX4_end 73 = .ok (.iastore, 1) := by decide +kernel
theorem dX4_end_74 : decode cX4_end 74 = .ok (.goto 8, 3) := by decide +kernel
theorem dX4_end_77 : decode cX4_end 77 = .ok (.aload_n 0, 1) := by decide +kernel
theorem dX4_end_78 : decode cX4_end 78 = .ok (.iconst 2, 1) := by decide +kernel
theorem dX4_end_79 : decode cX4_end 79 = .ok (.putfield 59, 3) := by decide +kernel
theorem dX4_end_82 : decode cX4_end 82 = .ok (.return_, 1) := by decide +kernel
set_option maxRecDepth 20000 in
theorem ggX4_reckon_X4_operated : GoodIn wsX4_reckon wsX4_operated := goodIn_r _ [9] (by decide +kernel) (by decide +kernel)
set_option maxRecDepth 20000 in
theorem gX4_reckon_X4_operated : GoodIn wsX4_reckon (va_wsS RX4 189 yX4_operated wsX4_operated) := goodIn_app (goodIn_of _ (by decide +kernel)) ggX4_reckon_X4_operated
set_option maxRecDepth 20000 in
theorem ggX4_reckon_X4_turned : GoodIn wsX4_reckon wsX4_turned := goodIn_r _ [12] (by decide +kernel) (by decide +kernel)
set_option maxRecDepth 20000 in
theorem gX4_reckon_X4_turned : GoodIn wsX4_reckon (va_wsS RX4 193 yX4_turned wsX4_turned) := goodIn_app (goodIn_of _ (by decide +kernel)) ggX4_reckon_X4_turned
set_option maxRecDepth 20000 in
theorem ggX4_reckon_X4_isAddress : GoodIn wsX4_reckon wsX4_isAddress := goodIn_r _ [15] (by decide +kernel) (by decide +kernel)
set_option maxRecDepth 20000 in
theorem gX4_reckon_X4_isAddress : GoodIn wsX4_reckon (va_wsS RX4 186 yX4_isAddress wsX4_isAddress) := goodIn_app (goodIn_of _ (by decide +kernel)) ggX4_reckon_X4_isAddress
theorem dX4_reckon_0 : decode cX4_reckon 0 = .ok (.iload_n 1, 1) := by decide +kernel
theorem dX4_reckon_1 : decode cX4_reckon 1 = .ok (.ifCond .eq 8, 3) := by decide +kernel
theorem dX4_reckon_4 : decode cX4_reckon 4 = .ok (.iload_n 1, 1) := by decide +kernel
theorem dX4_reckon_5 : decode cX4_reckon 5 = .ok (.iconst 1, 1) := by decide +kernel
theorem dX4_reckon_6 : decode cX4_reckon 6 = .ok (.if_icmp .ne 37, 3) := by decide +kernel
theorem dX4_reckon_9 : decode cX4_reckon 9 = .ok (.aload_n 0, 1) := by decide +kernel
theorem dX4_reckon_10 : decode cX4_reckon 10 = .ok (.getfield 56, 3) := by decide +kernel
theorem dX4_reckon_13 : decode cX4_reckon 13 = .ok (.aload_n 0, 1) := by decide +kernel
theorem dX4_reckon_14 : decode cX4_reckon 14 = .ok (.getfield 177, 3) := by decide +kernel
theorem dX4_reckon_17 : decode cX4_reckon 17 = .ok (.iload_n 1, 1) := by decide +kernel
theorem dX4_reckon_18 : decode cX4_reckon 18 = .ok (.ifCond .ne 7, 3) := by decide +kernel
theorem dX4_reckon_21 : decode cX4_reckon 21 = .ok (.iload_n 2, 1) := by decide +kernel
theorem dX4_reckon_22 : decode cX4_reckon 22 = .ok (.goto 9, 3) := by decide +kernel
theorem dX4_reckon_25 : decode cX4_reckon 25 = .ok (.aload_n 0, 1) := by decide +kernel
theorem dX4_reckon_26 : decode cX4_reckon 26 = .ok (.getfield 19, 3) := by decide +kernel
theorem dX4_reckon_29 : decode cX4_reckon 29 = .ok (.iload_n 2, 1) := by decide +kernel
theorem dX4_reckon_30 : decode cX4_reckon 30 = .ok (.iaload, 1) := by decide +kernel
theorem dX4_reckon_31 : decode cX4_reckon 31 = .ok (.iastore, 1) := by decide +kernel
theorem dX4_reckon_32 : decode cX4_reckon 32 = .ok (.aload_n 0, 1) := by decide +kernel
theorem dX4_reckon_33 : decode cX4_reckon 33 = .ok (.dup, 1) := by decide +kernel
theorem dX4_reckon_34 : decode cX4_reckon 34 = .ok (.getfield 177, 3) := by decide +kernel
theorem dX4_reckon_37 : decode cX4_reckon 37 = .ok (.iconst 1, 1) := by decide +kernel
theorem dX4_reckon_38 : decode cX4_reckon 38 = .ok (.iadd, 1) := by decide +kernel
theorem dX4_reckon_39 : decode cX4_reckon 39 = .ok (.putfield 177, 3) := by decide +kernel
theorem dX4_reckon_42 : decode cX4_reckon 42 = .ok (.return_, 1) := by decide +kernel
theorem dX4_reckon_43 : decode cX4_reckon 43 = .ok (.aload_n 0, 1) := by decide +kernel
theorem dX4_reckon_44 : decode cX4_reckon 44 = .ok (.getfield 177, 3) := by decide +kernel
theorem dX4_reckon_47 : decode cX4_reckon 47 = .ok (.iconst 1, 1) := by decide +kernel
theorem dX4_reckon_48 : decode cX4_reckon 48 = .ok (.isub, 1) := by decide +kernel
theorem dX4_reckon_49 : decode cX4_reckon 49 = .ok (.istore_n 3, 1) := by decide +kernel
theorem dX4_reckon_50 : decode cX4_reckon 50 = .ok (.iload_n 1, 1) := by decide +kernel
theorem dX4_reckon_51 : decode cX4_reckon 51 = .ok (.bipush 6, 2) := by decide +kernel
theorem dX4_reckon_53 : decode cX4_reckon 53 = .ok (.if_icmp .ne 42, 3) := by decide +kernel
theorem dX4_reckon_56 : decode cX4_reckon 56 = .ok (.aload_n 0, 1) := by decide +kernel
theorem dX4_reckon_57 : decode cX4_reckon 57 = .ok (.getfield 56, 3) := by decide +kernel
theorem dX4_reckon_60 : decode cX4_reckon 60 = .ok (.iload_n 3, 1) := by decide +kernel
theorem dX4_reckon_61 : decode cX4_reckon 61 = .ok (.iconst 1, 1) := by decide +kernel
theorem dX4_reckon_62 : decode cX4_reckon 62 = .ok (.isub, 1) := by decide +kernel
theorem dX4_reckon_63 : decode cX4_reckon 63 = .ok (.iload_n 2, 1) := by decide +kernel
theorem dX4_reckon_64 : decode cX4_reckon 64 = .ok (.aload_n 0, 1) := by decide +kernel
theorem dX4_reckon_65 : decode cX4_reckon 65 = .ok (.getfield 56, 3) := by decide +kernel
theorem dX4_reckon_68 : decode cX4_reckon 68 = .ok (.iload_n 3, 1) := by decide +kernel
theorem dX4_reckon_69 : decode cX4_reckon 69 = .ok (.iconst 1, 1) := by decide +kernel
theorem dX4_reckon_70 : decode cX4_reckon 70 = .ok (.isub, 1) := by decide +kernel
theorem dX4_reckon_71 : decode cX4_reckon 71 = .ok (.iaload, 1) := by decide +kernel
theorem dX4_reckon_72 : decode cX4_reckon 72 = .ok (.aload_n 0, 1) := by decide +kernel
theorem dX4_reckon_73 : decode cX4_reckon 73 = .ok (.getfield 56, 3) := by decide +kernel
theorem dX4_reckon_76 : decode cX4_reckon 76 = .ok (.iload_n 3, 1) := by decide +kernel
theorem dX4_reckon_77 : decode cX4_reckon 77 = .ok (.iaload, 1) := by decide +kernel
theorem dX4_reckon_78 : decode cX4_reckon 78 = .ok (.invokestatic 189, 3) := by decide +kernel
theorem dX4_reckon_81 : decode cX4_reckon 81 = .ok (.iastore, 1) := by decide +kernel
theorem dX4_reckon_82 : decode cX4_reckon 82 = .ok (.aload_n 0, 1) := by decide +kernel
theorem dX4_reckon_83 : decode cX4_reckon 83 = .ok (.dup, 1) := by decide +kernel
theorem dX4_reckon_84 : decode cX4_reckon 84 = .ok (.getfield 177, 3) := by decide +kernel
theorem dX4_reckon_87 : decode cX4_reckon 87 = .ok (.iconst 1, 1) := by decide +kernel
theorem dX4_reckon_88 : decode cX4_reckon 88 = .ok (.isub, 1) := by decide +kernel
theorem dX4_reckon_89 : decode cX4_reckon 89 = .ok (.putfield 177, 3) := by decide +kernel
theorem dX4_reckon_92 : decode cX4_reckon 92 = .ok (.goto 108, 3) := by decide +kernel
theorem dX4_reckon_95 : decode cX4_reckon 95 = .ok (.iload_n 1, 1) := by decide +kernel
theorem dX4_reckon_96 : decode cX4_reckon 96 = .ok (.iconst 3, 1) := by decide +kernel
theorem dX4_reckon_97 : decode cX4_reckon 97 = .ok (.if_icmp .ne 20, 3) := by decide +kernel
theorem dX4_reckon_100 : decode cX4_reckon 100 = .ok (.aload_n 0, 1) := by decide +kernel
theorem dX4_reckon_101 : decode cX4_reckon 101 = .ok (.getfield 56, 3) := by decide +kernel
theorem dX4_reckon_104 : decode cX4_reckon 104 = .ok (.iload_n 3, 1) := by decide +kernel
theorem dX4_reckon_105 : decode cX4_reckon 105 = .ok (.aload_n 0, 1) := by decide +kernel
theorem dX4_reckon_106 : decode cX4_reckon 106 = .ok (.getfield 56, 3) := by decide +kernel
theorem dX4_reckon_109 : decode cX4_reckon 109 = .ok (.iload_n 3, 1) := by decide +kernel
theorem dX4_reckon_110 : decode cX4_reckon 110 = .ok (.iaload, 1) := by decide +kernel
theorem dX4_reckon_111 : decode cX4_reckon 111 = .ok (.iconst (-1), 1) := by decide +kernel
theorem dX4_reckon_112 : decode cX4_reckon 112 = .ok (.ixor, 1) := by decide +kernel
theorem dX4_reckon_113 : decode cX4_reckon 113 = .ok (.iastore, 1) := by decide +kernel
theorem dX4_reckon_114 : decode cX4_reckon 114 = .ok (.goto 86, 3) := by decide +kernel
theorem dX4_reckon_117 : decode cX4_reckon 117 = .ok (.iload_n 1, 1) := by decide +kernel
theorem dX4_reckon_118 : decode cX4_reckon 118 = .ok (.iconst 4, 1) := by decide +kernel
theorem dX4_reckon_119 : decode cX4_reckon 119 = .ok (.if_icmp .ne 22, 3) := by decide +kernel
theorem dX4_reckon_122 : decode cX4_reckon 122 = .ok (.aload_n 0, 1) := by decide +kernel
theorem dX4_reckon_123 : decode cX4_reckon 123 = .ok (.getfield 56, 3) := by decide +kernel
theorem dX4_reckon_126 : decode cX4_reckon 126 = .ok (.iload_n 3, 1) := by decide +kernel
theorem dX4_reckon_127 : decode cX4_reckon 127 = .ok (.aload_n 0, 1) := by decide +kernel
theorem dX4_reckon_128 : decode cX4_reckon 128 = .ok (.getfield 56, 3) := by decide +kernel
theorem dX4_reckon_131 : decode cX4_reckon 131 = .ok (.iload_n 3, 1) := by decide +kernel
theorem dX4_reckon_132 : decode cX4_reckon 132 = .ok (.iaload, 1) := by decide +kernel
theorem dX4_reckon_133 : decode cX4_reckon 133 = .ok (.iload_n 2, 1) := by decide +kernel
theorem dX4_reckon_134 : decode cX4_reckon 134 = .ok (.invokestatic 193, 3) := by decide +kernel
theorem dX4_reckon_137 : decode cX4_reckon 137 = .ok (.iastore, 1) := by decide +kernel
theorem dX4_reckon_138 : decode cX4_reckon 138 = .ok (.goto 62, 3) := by decide +kernel
theorem dX4_reckon_141 : decode cX4_reckon 141 = .ok (.iload_n 1, 1) := by decide +kernel
theorem dX4_reckon_142 : decode cX4_reckon 142 = .ok (.iconst 5, 1) := by decide +kernel
theorem dX4_reckon_143 : decode cX4_reckon 143 = .ok (.if_icmp .ne 20, 3) := by decide +kernel
theorem dX4_reckon_146 : decode cX4_reckon 146 = .ok (.aload_n 0, 1) := by decide +kernel
theorem dX4_reckon_147 : decode cX4_reckon 147 = .ok (.getfield 56, 3) := by decide +kernel
theorem dX4_reckon_150 : decode cX4_reckon 150 = .ok (.iload_n 3, 1) := by decide +kernel
theorem dX4_reckon_151 : decode cX4_reckon 151 = .ok (.aload_n 0, 1) := by decide +kernel
theorem dX4_reckon_152 : decode cX4_reckon 152 = .ok (.getfield 56, 3) := by decide +kernel
theorem dX4_reckon_155 : decode cX4_reckon 155 = .ok (.iload_n 3, 1) := by decide +kernel
theorem dX4_reckon_156 : decode cX4_reckon 156 = .ok (.iaload, 1) := by decide +kernel
theorem dX4_reckon_157 : decode cX4_reckon 157 = .ok (.iload_n 2, 1) := by decide +kernel
theorem dX4_reckon_158 : decode cX4_reckon 158 = .ok (.iushr, 1) := by decide +kernel
theorem dX4_reckon_159 : decode cX4_reckon 159 = .ok (.iastore, 1) := by decide +kernel
theorem dX4_reckon_160 : decode cX4_reckon 160 = .ok (.goto 40, 3) := by decide +kernel
theorem dX4_reckon_163 : decode cX4_reckon 163 = .ok (.aload_n 0, 1) := by decide +kernel
theorem dX4_reckon_164 : decode cX4_reckon 164 = .ok (.getfield 56, 3) := by decide +kernel
theorem dX4_reckon_167 : decode cX4_reckon 167 = .ok (.iload_n 3, 1) := by decide +kernel
theorem dX4_reckon_168 : decode cX4_reckon 168 = .ok (.iaload, 1) := by decide +kernel
theorem dX4_reckon_169 : decode cX4_reckon 169 = .ok (.invokestatic 186, 3) := by decide +kernel
theorem dX4_reckon_172 : decode cX4_reckon 172 = .ok (.ifCond .eq 23, 3) := by decide +kernel
theorem dX4_reckon_175 : decode cX4_reckon 175 = .ok (.aload_n 0, 1) := by decide +kernel
theorem dX4_reckon_176 : decode cX4_reckon 176 = .ok (.getfield 56, 3) := by decide +kernel
theorem dX4_reckon_179 : decode cX4_reckon 179 = .ok (.iload_n 3, 1) := by decide +kernel
theorem dX4_reckon_180 : decode cX4_reckon 180 = .ok (.aload_n 0, 1) := by decide +kernel
theorem dX4_reckon_181 : decode cX4_reckon 181 = .ok (.getfield 13, 3) := by decide +kernel
theorem dX4_reckon_184 : decode cX4_reckon 184 = .ok (.aload_n 0, 1) := by decide +kernel
theorem dX4_reckon_185 : decode cX4_reckon 185 = .ok (.getfield 56, 3) := by decide +kernel
theorem dX4_reckon_188 : decode cX4_reckon 188 = .ok (.iload_n 3, 1) := by decide +kernel
theorem dX4_reckon_189 : decode cX4_reckon 189 = .ok (.iaload, 1) := by decide +kernel
theorem dX4_reckon_190 : decode cX4_reckon 190 = .ok (.iaload, 1) := by decide +kernel
theorem dX4_reckon_191 : decode cX4_reckon 191 = .ok (.iastore, 1) := by decide +kernel
theorem dX4_reckon_192 : decode cX4_reckon 192 = .ok (.goto 8, 3) := by decide +kernel
theorem dX4_reckon_195 : decode cX4_reckon 195 = .ok (.aload_n 0, 1) := by decide +kernel
theorem dX4_reckon_196 : decode cX4_reckon 196 = .ok (.iconst 2, 1) := by decide +kernel
theorem dX4_reckon_197 : decode cX4_reckon 197 = .ok (.putfield 59, 3) := by decide +kernel
theorem dX4_reckon_200 : decode cX4_reckon 200 = .ok (.return_, 1) := by decide +kernel
theorem dX4_value_0 : decode cX4_value 0 = .ok (.aload_n 0, 1) := by decide +kernel
theorem dX4_value_1 : decode cX4_value 1 = .ok (.iload_n 1, 1) := by decide +kernel
theorem dX4_value_2 : decode cX4_value 2 = .ok (.ifCond .lt 9, 3) := by decide +kernel
theorem dX4_value_5 : decode cX4_value 5 = .ok (.iload_n 1, 1) := by decide +kernel
theorem dX4_value_6 : decode cX4_value 6 = .ok (.bipush 25, 2) := by decide +kernel
theorem dX4_value_8 : decode cX4_value 8 = .ok (.if_icmp .le 7, 3) := by decide +kernel
theorem dX4_value_11 : decode cX4_value 11 = .ok (.iconst 1, 1) := by decide +kernel
theorem dX4_value_12 : decode cX4_value 12 = .ok (.goto 4, 3) := by decide +kernel
theorem dX4_value_15 : decode cX4_value 15 = .ok (.iconst 0, 1) := by decide +kernel
theorem dX4_value_16 : decode cX4_value 16 = .ok (.putfield 59, 3) := by decide +kernel
theorem dX4_value_19 : decode cX4_value 19 = .ok (.aload_n 0, 1) := by decide +kernel
theorem dX4_value_20 : decode cX4_value 20 = .ok (.getfield 59, 3) := by decide +kernel
theorem dX4_value_23 : decode cX4_value 23 = .ok (.ifCond .le 7, 3) := by decide +kernel
theorem dX4_value_26 : decode cX4_value 26 = .ok (.iconst 0, 1) := by decide +kernel
theorem dX4_value_27 : decode cX4_value 27 = .ok (.goto 9, 3) := by decide +kernel
theorem dX4_value_30 : decode cX4_value 30 = .ok (.aload_n 0, 1) := by decide +kernel
theorem dX4_value_31 : decode cX4_value 31 = .ok (.getfield 22, 3) := by decide +kernel
theorem dX4_value_34 : decode cX4_value 34 = .ok (.iload_n 1, 1) := by decide +kernel
theorem dX4_value_35 : decode cX4_value 35 = .ok (.iaload, 1) := by decide +kernel
theorem dX4_value_36 : decode cX4_value 36 = .ok (.ireturn, 1) := by decide +kernel
set_option maxRecDepth 20000 in
theorem ggX4_poke_X4_isAddress : GoodIn wsX4_poke wsX4_isAddress := goodIn_r _ [6] (by decide +kernel) (by decide +kernel)
set_option maxRecDepth 20000 in
theorem gX4_poke_X4_isAddress : GoodIn wsX4_poke (va_wsS RX4 186 yX4_isAddress wsX4_isAddress) := goodIn_app (goodIn_of _ (by decide +kernel)) ggX4_poke_X4_isAddress
theorem dX4_poke_0 : decode cX4_poke 0 = .ok (.aload_n 0, 1) := by decide +kernel
theorem dX4_poke_1 : decode cX4_poke 1 = .ok (.iload_n 1, 1) := by decide +kernel
theorem dX4_poke_2 : decode cX4_poke 2 = .ok (.invokestatic 186, 3) := by decide +kernel
theorem dX4_poke_5 : decode cX4_poke 5 = .ok (.ifCond .eq 7, 3) := by decide +kernel
theorem dX4_poke_8 : decode cX4_poke 8 = .ok (.iconst 0, 1) := by decide +kernel
theorem dX4_poke_9 : decode cX4_poke 9 = .ok (.goto 4, 3) := by decide +kernel
theorem dX4_poke_12 : decode cX4_poke 12 = .ok (.iconst 1, 1) := by decide +kernel
theorem dX4_poke_13 : decode cX4_poke 13 = .ok (.putfield 59, 3) := by decide +kernel
theorem dX4_poke_16 : decode cX4_poke 16 = .ok (.aload_n 0, 1) := by decide +kernel
theorem dX4_poke_17 : decode cX4_poke 17 = .ok (.getfield 59, 3) := by decide +kernel
theorem dX4_poke_20 : decode cX4_poke 20 = .ok (.ifCond .ne 10, 3) := by decide +kernel
theorem dX4_poke_23 : decode cX4_poke 23 = .ok (.aload_n 0, 1) := by decide +kernel
theorem dX4_poke_24 : decode cX4_poke 24 = .ok (.getfield 13, 3) := by decide +kernel
theorem dX4_poke_27 : decode cX4_poke 27 = .ok (.iload_n 1, 1) := by decide +kernel
theorem dX4_poke_28 : decode cX4_poke 28 = .ok (.iload_n 2, 1) := by decide +kernel
theorem dX4_poke_29 : decode cX4_poke 29 = .ok (.iastore, 1) := by decide +kernel
theorem dX4_poke_30 : decode cX4_poke 30 = .ok (.return_, 1) := by decide +kernel
set_option maxRecDepth 20000 in
theorem ggX4_peek_X4_isAddress : GoodIn wsX4_peek wsX4_isAddress := goodIn_r _ [6] (by decide +kernel) (by decide +kernel)
set_option maxRecDepth 20000 in
theorem gX4_peek_X4_isAddress : GoodIn wsX4_peek (va_wsS RX4 186 yX4_isAddress wsX4_isAddress) := goodIn_app (goodIn_of _ (by decide +kernel)) ggX4_peek_X4_isAddress
theorem dX4_peek_0 : decode cX4_peek 0 = .ok (.aload_n 0, 1) := by decide +kernel
theorem dX4_peek_1 : decode cX4_peek 1 = .ok (.iload_n 1, 1) := by decide +kernel
theorem dX4_peek_2 : decode cX4_peek 2 = .ok (.invokestatic 186, 3) := by decide +kernel
theorem dX4_peek_5 : decode cX4_peek 5 = .ok (.ifCond .eq 7, 3) := by decide +kernel
theorem dX4_peek_8 : decode cX4_peek 8 = .ok (.iconst 0, 1) := by decide +kernel
theorem dX4_peek_9 : decode cX4_peek 9 = .ok (.goto 4, 3) := by decide +kernel
theorem dX4_peek_12 : decode cX4_peek 12 = .ok (.iconst 1, 1) := by decide +kernel
theorem dX4_peek_13 : decode cX4_peek 13 = .ok (.putfield 59, 3) := by decide +kernel
theorem dX4_peek_16 : decode cX4_peek 16 = .ok (.aload_n 0, 1) := by decide +kernel
theorem dX4_peek_17 : decode cX4_peek 17 = .ok (.getfield 59, 3) := by decide +kernel
theorem dX4_peek_20 : decode cX4_peek 20 = .ok (.ifCond .le 7, 3) := by decide +kernel
theorem dX4_peek_23 : decode cX4_peek 23 = .ok (.iconst 0, 1) := by decide +kernel
theorem dX4_peek_24 : decode cX4_peek 24 = .ok (.goto 9, 3) := by decide +kernel
theorem dX4_peek_27 : decode cX4_peek 27 = .ok (.aload_n 0, 1) := by decide +kernel
theorem dX4_peek_28 : decode cX4_peek 28 = .ok (.getfield 13, 3) := by decide +kernel
theorem dX4_peek_31 : decode cX4_peek 31 = .ok (.iload_n 1, 1) := by decide +kernel
theorem dX4_peek_32 : decode cX4_peek 32 = .ok (.iaload, 1) := by decide +kernel
theorem dX4_peek_33 : decode cX4_peek 33 = .ok (.ireturn, 1) := by decide +kernel
theorem dX4_fill_0 : decode cX4_fill 0 = .ok (.aload_n 0, 1) := by decide +kernel
theorem dX4_fill_1 : decode cX4_fill 1 = .ok (.iload_n 1, 1) := by decide +kernel
theorem dX4_fill_2 : decode cX4_fill 2 = .ok (.ifCond .lt 10, 3) := by decide +kernel
theorem dX4_fill_5 : decode cX4_fill 5 = .ok (.iload_n 1, 1) := by decide +kernel
theorem dX4_fill_6 : decode cX4_fill 6 = .ok (.sipush 192, 3) := by decide +kernel
theorem dX4_fill_9 : decode cX4_fill 9 = .ok (.if_icmp .le 7, 3) := by decide +kernel
theorem dX4_fill_12 : decode cX4_fill 12 = .ok (.iconst 1, 1) := by decide +kernel
theorem dX4_fill_13 : decode cX4_fill 13 = .ok (.goto 4, 3) := by decide +kernel
theorem dX4_fill_16 : decode cX4_fill 16 = .ok (.iconst 0, 1) := by decide +kernel
theorem dX4_fill_17 : decode cX4_fill 17 = .ok (.putfield 59, 3) := by decide +kernel
theorem dX4_fill_20 : decode cX4_fill 20 = .ok (.iconst 0, 1) := by decide +kernel
