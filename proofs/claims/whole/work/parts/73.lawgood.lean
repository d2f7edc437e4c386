set_option maxRecDepth 20000 in
theorem gwX0 : GoodIn wsL_law wsX00 := goodIn_sub inlX0 (by decide +kernel)
set_option maxRecDepth 20000 in
theorem gwX1 : GoodIn wsL_law wsX10 := goodIn_sub inlX1 (by decide +kernel)
set_option maxRecDepth 20000 in
theorem gwX2 : GoodIn wsL_law wsX20 := goodIn_sub inlX2 (by decide +kernel)
set_option maxRecDepth 20000 in
theorem gwX3 : GoodIn wsL_law wsX30 := goodIn_sub inlX3 (by decide +kernel)
set_option maxRecDepth 20000 in
theorem gwX4 : GoodIn wsL_law wsX40 := goodIn_sub inlX4 (by decide +kernel)
set_option maxRecDepth 20000 in
theorem gxA : GoodIn wsL_law ((vx_atS RX3 54 "java/lang/IllegalArgumentException" ["java/lang/RuntimeException", "java/lang/Exception"]).filter goodWord) := goodIn_sub (fun _ h => List.mem_append_left _ (List.mem_append_left _ (List.mem_append_right _ h))) (by decide +kernel)
set_option maxRecDepth 20000 in
theorem gxB : GoodIn wsL_law ((vx_atS RX3 74 "java/lang/IllegalStateException" ["java/lang/RuntimeException", "java/lang/Exception"]).filter goodWord) := goodIn_sub (fun _ h => List.mem_append_left _ (List.mem_append_right _ h)) (by decide +kernel)
set_option maxRecDepth 20000 in
theorem gxC : GoodIn wsL_law ((vx_atS RX3 83 "java/lang/IndexOutOfBoundsException" ["java/lang/RuntimeException", "java/lang/Exception"]).filter goodWord) := goodIn_sub (fun _ h => List.mem_append_right _ h) (by decide +kernel)
set_option maxRecDepth 20000 in
theorem ggL_law_X3_init : GoodIn wsL_law wsX3_init := (goodIn_ca (goodIn_ca (goodIn_ca (goodIn_ca (goodIn_ca (goodIn_r _ [10, 11, 12, 13, 14, 15, 16, 17, 18, 19, 20, 21, 22, 23, 24, 25, 26, 27, 28, 29, 30, 31, 32, 33, 34] (by decide +kernel) (by decide +kernel)) (goodIn_r _ [35, 36, 37, 38, 39, 40, 41, 42, 43, 44, 45, 46, 47, 48] (by decide +kernel) (by decide +kernel))) gwX2) gwX3) gwX1) gwX0)
set_option maxRecDepth 20000 in
theorem gL_law_X3_init : GoodIn wsL_law (wsX3_init) := ggL_law_X3_init
set_option maxRecDepth 20000 in
theorem ggL_law_X4_init : GoodIn wsL_law wsX4_init := (goodIn_ca (goodIn_r _ [51, 52, 12, 13, 37, 53, 54, 55, 56, 57, 58, 59, 60, 61, 62, 63, 64, 65, 66, 67, 68, 69] (by decide +kernel) (by decide +kernel)) gwX4)
set_option maxRecDepth 20000 in
theorem gL_law_X4_init : GoodIn wsL_law (wsX4_init) := ggL_law_X4_init
set_option maxRecDepth 20000 in
theorem ggL_law_X3_write : GoodIn wsL_law wsX3_write := (goodIn_ca (goodIn_ca (goodIn_r _ [73, 17, 74, 75, 2, 76, 77, 16, 78, 79, 80, 31] (by decide +kernel) (by decide +kernel)) gwX3) gwX2)
set_option maxRecDepth 20000 in
theorem gL_law_X3_write : GoodIn wsL_law (wsV RL 43 RX3 yX3_write wsX3_write) := goodIn_app (goodIn_of _ (by decide +kernel)) ggL_law_X3_write
set_option maxRecDepth 20000 in
theorem ggL_law_X4_write : GoodIn wsL_law wsX4_write := (goodIn_ca (goodIn_r _ [84, 85, 86, 87, 53] (by decide +kernel) (by decide +kernel)) gwX4)
set_option maxRecDepth 20000 in
theorem gL_law_X4_write : GoodIn wsL_law (wsV RL 47 RX4 yX4_write wsX4_write) := goodIn_app (goodIn_of _ (by decide +kernel)) ggL_law_X4_write
set_option maxRecDepth 20000 in
theorem ggL_law_X3_wipe : GoodIn wsL_law wsX3_wipe := (goodIn_ca (goodIn_ca (goodIn_r _ [91, 17] (by decide +kernel) (by decide +kernel)) gwX3) gwX2)
set_option maxRecDepth 20000 in
theorem gL_law_X3_wipe : GoodIn wsL_law (wsV RL 48 RX3 yX3_wipe wsX3_wipe) := goodIn_app (goodIn_of _ (by decide +kernel)) ggL_law_X3_wipe
set_option maxRecDepth 20000 in
theorem ggL_law_X4_wipe : GoodIn wsL_law wsX4_wipe := (goodIn_ca (goodIn_r _ [95, 85, 87] (by decide +kernel) (by decide +kernel)) gwX4)
set_option maxRecDepth 20000 in
theorem gL_law_X4_wipe : GoodIn wsL_law (wsV RL 51 RX4 yX4_wipe wsX4_wipe) := goodIn_app (goodIn_of _ (by decide +kernel)) ggL_law_X4_wipe
set_option maxRecDepth 20000 in
theorem ggL_law_L_compile : GoodIn wsL_law wsL_compile := (goodIn_ca (goodIn_ca (goodIn_ca (goodIn_ca (goodIn_ca (goodIn_r _ [99, 100, 101, 102, 103, 2, 104, 105, 106, 17, 25, 26, 107, 16, 108, 109, 33, 110, 111, 112, 113, 114, 24, 115, 116] (by decide +kernel) (by decide +kernel)) (goodIn_app (goodIn_r _ [117, 118, 119, 120, 121, 122, 123, 124, 125, 126, 127, 80, 31, 128, 129, 130, 131, 132, 133, 134, 135, 136, 137, 138] (by decide +kernel) (by decide +kernel)) (goodIn_app (goodIn_r _ [139, 140, 141, 142, 143, 144, 145, 146, 147, 148, 149, 150, 151, 152, 153, 39, 154, 155, 156, 157, 38, 158, 159, 160] (by decide +kernel) (by decide +kernel)) (goodIn_app (goodIn_r _ [161, 162, 163, 40, 164, 165, 166, 167, 168, 169, 170, 171, 172, 173, 174, 175, 176, 177, 178, 179, 180, 181, 182, 183] (by decide +kernel) (by decide +kernel)) (goodIn_app (goodIn_r _ [184, 185, 186, 187, 188, 189, 190, 191, 192, 193, 194, 195, 196, 197, 198, 199, 200, 201, 202, 203, 204, 205, 206, 207] (by decide +kernel) (by decide +kernel)) (goodIn_r _ [208, 209, 210, 211, 212, 213, 214, 215, 216, 217, 218, 219, 220] (by decide +kernel) (by decide +kernel))))))) gwX3) gwX0) gwX2) gxA)
set_option maxRecDepth 20000 in
theorem gL_law_L_compile : GoodIn wsL_law (va_wsS RL 52 yL_compile wsL_compile) := goodIn_app (goodIn_of _ (by decide +kernel)) ggL_law_L_compile
set_option maxRecDepth 20000 in
theorem ggL_law_X4_compile : GoodIn wsL_law wsX4_compile := (goodIn_ca (goodIn_ca (goodIn_r _ [224, 225, 226, 227, 228, 229, 230, 231, 232, 233, 68, 87, 85, 60, 58, 61, 59, 234, 235, 236, 237, 238, 239, 5, 240] (by decide +kernel) (by decide +kernel)) (goodIn_app (goodIn_r _ [66, 67, 241, 242, 243, 244, 245, 246, 247, 53, 248, 249, 250, 251, 252, 253, 254, 255, 256, 257, 258, 259, 260, 261] (by decide +kernel) (by decide +kernel)) (goodIn_app (goodIn_r _ [262, 263, 264, 265, 266, 267, 268, 269, 270, 62, 63, 271, 272, 273, 274, 275, 276, 277, 278, 279, 280, 281, 282, 283] (by decide +kernel) (by decide +kernel)) (goodIn_r _ [284, 285, 286, 287, 288, 289, 290, 291, 292, 65, 293, 294, 295, 296, 297, 298, 299, 300, 301, 302, 303, 304] (by decide +kernel) (by decide +kernel))))) gwX4)
set_option maxRecDepth 20000 in
theorem gL_law_X4_compile : GoodIn wsL_law (wsV RL 57 RX4 yX4_compile wsX4_compile) := goodIn_app (goodIn_of _ (by decide +kernel)) ggL_law_X4_compile
set_option maxRecDepth 20000 in
theorem ggL_law_X4_thrown : GoodIn wsL_law wsX4_thrown := (goodIn_ca (goodIn_r _ [308, 85] (by decide +kernel) (by decide +kernel)) gwX4)
set_option maxRecDepth 20000 in
theorem gL_law_X4_thrown : GoodIn wsL_law (wsV RL 58 RX4 yX4_thrown wsX4_thrown) := goodIn_app (goodIn_of _ (by decide +kernel)) ggL_law_X4_thrown
set_option maxRecDepth 20000 in
theorem ggL_law_X3_fault : GoodIn wsL_law wsX3_fault := (goodIn_ca (goodIn_ca (goodIn_r _ [312, 17] (by decide +kernel) (by decide +kernel)) gwX3) gwX2)
set_option maxRecDepth 20000 in
theorem gL_law_X3_fault : GoodIn wsL_law (wsV RL 61 RX3 yX3_fault wsX3_fault) := goodIn_app (goodIn_of _ (by decide +kernel)) ggL_law_X3_fault
set_option maxRecDepth 20000 in
theorem ggL_law_X4_fault : GoodIn wsL_law wsX4_fault := (goodIn_ca (goodIn_r _ [316, 85, 225] (by decide +kernel) (by decide +kernel)) gwX4)
set_option maxRecDepth 20000 in
theorem gL_law_X4_fault : GoodIn wsL_law (wsV RL 64 RX4 yX4_fault wsX4_fault) := goodIn_app (goodIn_of _ (by decide +kernel)) ggL_law_X4_fault
set_option maxRecDepth 20000 in
theorem ggL_law_X3_work : GoodIn wsL_law wsX3_work := (goodIn_ca (goodIn_ca (goodIn_r _ [320, 25] (by decide +kernel) (by decide +kernel)) gwX3) gwX0)
set_option maxRecDepth 20000 in
theorem gL_law_X3_work : GoodIn wsL_law (wsV RL 65 RX3 yX3_work wsX3_work) := goodIn_app (goodIn_of _ (by decide +kernel)) ggL_law_X3_work
set_option maxRecDepth 20000 in
theorem ggL_law_X4_work : GoodIn wsL_law wsX4_work := (goodIn_ca (goodIn_r _ [324, 85, 236, 235] (by decide +kernel) (by decide +kernel)) gwX4)
set_option maxRecDepth 20000 in
theorem gL_law_X4_work : GoodIn wsL_law (wsV RL 68 RX4 yX4_work wsX4_work) := goodIn_app (goodIn_of _ (by decide +kernel)) ggL_law_X4_work
set_option maxRecDepth 20000 in
theorem ggL_law_L_run : GoodIn wsL_law wsL_run := (goodIn_ca (goodIn_ca (goodIn_ca (goodIn_ca (goodIn_ca (goodIn_ca (goodIn_r _ [327, 328, 329, 330, 331, 332, 2, 333, 334, 335, 336, 337, 26, 21, 25, 338, 20, 339, 340, 44, 45, 341, 342, 343, 344] (by decide +kernel) (by decide +kernel)) (goodIn_app (goodIn_r _ [47, 345, 346, 347, 348, 46, 349, 350, 351, 352, 353, 354, 355, 356, 357, 358, 359, 360, 48, 361, 362, 363, 364, 365] (by decide +kernel) (by decide +kernel)) (goodIn_app (goodIn_r _ [366, 367, 368, 369, 370, 371, 372, 373, 374, 375, 376, 377, 378, 379, 380, 381, 382, 383, 384, 385, 386, 187, 188, 158] (by decide +kernel) (by decide +kernel)) (goodIn_r _ [159] (by decide +kernel) (by decide +kernel))))) gwX3) gwX1) gwX0) gxB) gxC)
set_option maxRecDepth 20000 in
theorem gL_law_L_run : GoodIn wsL_law (va_wsS RL 69 yL_run wsL_run) := goodIn_app (goodIn_of _ (by decide +kernel)) ggL_law_L_run
set_option maxRecDepth 20000 in
theorem ggL_law_X4_run : GoodIn wsL_law wsX4_run := (goodIn_ca (goodIn_ca (goodIn_r _ [390, 236, 85, 55, 54, 56, 391, 234, 60, 61, 69, 57, 392, 393, 394, 5, 395, 396, 397, 398, 399, 400, 401, 402, 403] (by decide +kernel) (by decide +kernel)) (goodIn_r _ [404, 405, 406, 407, 408] (by decide +kernel) (by decide +kernel))) gwX4)
set_option maxRecDepth 20000 in
theorem gL_law_X4_run : GoodIn wsL_law (wsV RL 71 RX4 yX4_run wsX4_run) := goodIn_app (goodIn_of _ (by decide +kernel)) ggL_law_X4_run
set_option maxRecDepth 20000 in
theorem ggL_law_L_value : GoodIn wsL_law wsL_value := (goodIn_ca (goodIn_ca (goodIn_ca (goodIn_r _ [411, 329, 412, 413, 414, 2, 415, 336, 337, 21] (by decide +kernel) (by decide +kernel)) gwX3) gwX1) gxC)
set_option maxRecDepth 20000 in
theorem gL_law_L_value : GoodIn wsL_law (va_wsS RL 72 yL_value wsL_value) := goodIn_app (goodIn_of _ (by decide +kernel)) ggL_law_L_value
set_option maxRecDepth 20000 in
theorem ggL_law_X4_value : GoodIn wsL_law wsX4_value := (goodIn_ca (goodIn_r _ [419, 85, 57] (by decide +kernel) (by decide +kernel)) gwX4)
set_option maxRecDepth 20000 in
theorem gL_law_X4_value : GoodIn wsL_law (wsV RL 75 RX4 yX4_value wsX4_value) := goodIn_app (goodIn_of _ (by decide +kernel)) ggL_law_X4_value
set_option maxRecDepth 20000 in
theorem ggL_law_L_poke : GoodIn wsL_law wsL_poke := (goodIn_ca (goodIn_ca (goodIn_ca (goodIn_r _ [422, 329, 423, 424, 425, 2, 426, 336, 337, 21, 427, 373, 374] (by decide +kernel) (by decide +kernel)) gwX3) gwX1) gxC)
set_option maxRecDepth 20000 in
theorem gL_law_L_poke : GoodIn wsL_law (va_wsS RL 76 yL_poke wsL_poke) := goodIn_app (goodIn_of _ (by decide +kernel)) ggL_law_L_poke
set_option maxRecDepth 20000 in
theorem ggL_law_X4_poke : GoodIn wsL_law wsX4_poke := (goodIn_ca (goodIn_r _ [431, 85, 54, 396, 397, 5, 398] (by decide +kernel) (by decide +kernel)) gwX4)
set_option maxRecDepth 20000 in
theorem gL_law_X4_poke : GoodIn wsL_law (wsV RL 79 RX4 yX4_poke wsX4_poke) := goodIn_app (goodIn_of _ (by decide +kernel)) ggL_law_X4_poke
set_option maxRecDepth 20000 in
theorem ggL_law_L_peek : GoodIn wsL_law wsL_peek := (goodIn_ca (goodIn_ca (goodIn_ca (goodIn_r _ [434, 329, 435, 436, 437, 2, 438, 336, 337, 21, 427, 373, 374] (by decide +kernel) (by decide +kernel)) gwX3) gwX1) gxC)
set_option maxRecDepth 20000 in
theorem gL_law_L_peek : GoodIn wsL_law (va_wsS RL 80 yL_peek wsL_peek) := goodIn_app (goodIn_of _ (by decide +kernel)) ggL_law_L_peek
set_option maxRecDepth 20000 in
theorem ggL_law_X4_peek : GoodIn wsL_law wsX4_peek := (goodIn_ca (goodIn_r _ [442, 85, 54, 396, 397, 5, 398] (by decide +kernel) (by decide +kernel)) gwX4)
set_option maxRecDepth 20000 in
theorem gL_law_X4_peek : GoodIn wsL_law (wsV RL 82 RX4 yX4_peek wsX4_peek) := goodIn_app (goodIn_of _ (by decide +kernel)) ggL_law_X4_peek
set_option maxRecDepth 20000 in
theorem ggL_law_L_fill : GoodIn wsL_law wsL_fill := (goodIn_ca (goodIn_ca (goodIn_ca (goodIn_r _ [445, 100, 446, 447, 448, 2, 449, 105, 106, 21] (by decide +kernel) (by decide +kernel)) gwX3) gwX1) gxA)
set_option maxRecDepth 20000 in
theorem gL_law_L_fill : GoodIn wsL_law (va_wsS RL 83 yL_fill wsL_fill) := goodIn_app (goodIn_of _ (by decide +kernel)) ggL_law_L_fill
set_option maxRecDepth 20000 in
theorem ggL_law_X4_fill : GoodIn wsL_law wsX4_fill := (goodIn_ca (goodIn_r _ [453, 85, 54] (by decide +kernel) (by decide +kernel)) gwX4)
set_option maxRecDepth 20000 in
theorem gL_law_X4_fill : GoodIn wsL_law (wsV RL 86 RX4 yX4_fill wsX4_fill) := goodIn_app (goodIn_of _ (by decide +kernel)) ggL_law_X4_fill
set_option maxRecDepth 20000 in
theorem ggL_law_X3_mixed : GoodIn wsL_law wsX3_mixed := (goodIn_ca (goodIn_ca (goodIn_r _ [457, 21, 458, 187, 2, 188] (by decide +kernel) (by decide +kernel)) gwX3) gwX1)
set_option maxRecDepth 20000 in
theorem gL_law_X3_mixed : GoodIn wsL_law (wsV RL 87 RX3 yX3_mixed wsX3_mixed) := goodIn_app (goodIn_of _ (by decide +kernel)) ggL_law_X3_mixed
set_option maxRecDepth 20000 in
theorem ggL_law_X4_mixed : GoodIn wsL_law wsX4_mixed := (goodIn_ca (goodIn_r _ [462, 85, 54, 406, 407, 5, 408] (by decide +kernel) (by decide +kernel)) gwX4)
set_option maxRecDepth 20000 in
theorem gL_law_X4_mixed : GoodIn wsL_law (wsV RL 90 RX4 yX4_mixed wsX4_mixed) := goodIn_app (goodIn_of _ (by decide +kernel)) ggL_law_X4_mixed
