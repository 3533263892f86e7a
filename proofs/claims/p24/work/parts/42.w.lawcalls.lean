theorem goodIn_one {big a : List Cond} {c : Cond} (hc : GoodIn big [c]) (ha : GoodIn big a) : GoodIn big (c :: a) := fun w h => (List.mem_cons.mp h).elim (fun e => hc w (List.mem_cons.mpr (Or.inl e))) (ha w)
set_option maxRecDepth 20000 in
theorem ggL_law_X2_init : GoodIn wsL_law wsX2_init := goodIn_r _ [8, 9, 10, 11, 12, 13, 14, 15, 16, 17, 18, 19, 20, 4, 21, 22, 23, 24, 25, 26, 27, 28, 29, 30, 31, 32, 33, 34, 35, 36, 37, 38, 39, 40, 41, 42, 43, 44, 45, 46, 47, 48, 49, 50, 51, 52, 53, 54, 55, 424, 425, 426, 427, 428, 429, 430, 431, 432, 433, 434, 435, 436, 437, 438, 439, 440, 410, 411, 412, 413, 441, 442, 443, 444, 445, 446, 447, 448, 449, 450, 451, 452, 453, 454, 455, 456] (by decide +kernel) (by decide +kernel)
set_option maxRecDepth 20000 in
theorem gL_law_X2_init : GoodIn wsL_law (wsX2_init) := ggL_law_X2_init
set_option maxRecDepth 20000 in
theorem ggL_law_L_build_c : GoodIn wsL_law [.code yL_build cL_build 12 (some (.object "LampHillsLaw$Sim"))] := goodIn_sub (fun w h => (List.mem_singleton.mp h) ▸ List.mem_of_getElem? (i := 59) rfl) (by decide +kernel)
set_option maxRecDepth 20000 in
theorem ggL_law_L_build_wsL_build_r1 : GoodIn wsL_law wsL_build_r1 := goodIn_r _ [60, 61, 62, 63, 64, 65, 66, 67, 68, 4, 69, 70, 71, 5, 72, 73, 74, 10, 11, 75, 76, 77, 78, 79] (by decide +kernel) (by decide +kernel)
set_option maxRecDepth 20000 in
theorem ggL_law_L_build_wsL_build_r2 : GoodIn wsL_law wsL_build_r2 := goodIn_r _ [80, 81, 82, 83, 84, 85, 58, 86, 87, 88, 89, 90, 91, 92, 93, 94, 2, 95, 15, 96, 97, 98, 99, 100] (by decide +kernel) (by decide +kernel)
set_option maxRecDepth 20000 in
theorem ggL_law_L_build_wsL_build_r3 : GoodIn wsL_law wsL_build_r3 := goodIn_r _ [101, 102, 103, 104, 105, 106, 107, 108, 109, 14, 110, 111, 25, 27, 112, 113, 114, 115, 116, 117, 118, 119, 120, 121] (by decide +kernel) (by decide +kernel)
set_option maxRecDepth 20000 in
theorem ggL_law_L_build_wsL_build_r4 : GoodIn wsL_law wsL_build_r4 := goodIn_r _ [122, 123, 124, 125, 126, 127, 128, 129, 130, 28, 29, 30, 131, 132, 133, 134, 135, 136, 137, 138, 139, 140, 141, 142] (by decide +kernel) (by decide +kernel)
set_option maxRecDepth 20000 in
theorem ggL_law_L_build_wsL_build_r5 : GoodIn wsL_law wsL_build_r5 := goodIn_r _ [143, 144, 145, 146, 147, 148, 149, 150, 151, 152, 153, 154, 155, 156, 157, 158, 159, 160, 161, 162, 163, 31, 32, 164] (by decide +kernel) (by decide +kernel)
set_option maxRecDepth 20000 in
theorem ggL_law_L_build_wsL_build_r6 : GoodIn wsL_law wsL_build_r6 := goodIn_r _ [165, 166, 167, 168, 169, 170, 171, 172, 173, 174, 175, 176, 177, 178, 19, 179, 180, 181, 182, 183, 184, 35, 36, 185] (by decide +kernel) (by decide +kernel)
set_option maxRecDepth 20000 in
theorem ggL_law_L_build_wsL_build_r7 : GoodIn wsL_law wsL_build_r7 := goodIn_r _ [186, 187, 18, 188, 49, 189, 54, 190, 191, 192, 193, 51, 53, 194, 195, 196, 197, 198, 199, 200, 201, 202, 203, 204] (by decide +kernel) (by decide +kernel)
set_option maxRecDepth 20000 in
theorem ggL_law_L_build_wsL_build_r8 : GoodIn wsL_law wsL_build_r8 := goodIn_r _ [205, 37, 38, 206, 207, 208, 209] (by decide +kernel) (by decide +kernel)
set_option maxRecDepth 20000 in
theorem ggL_law_L_build_wsX30 : GoodIn wsL_law wsX30 := goodIn_r _ [414, 415, 416, 417, 418, 419, 420, 421, 422, 423] (by decide +kernel) (by decide +kernel)
set_option maxRecDepth 20000 in
theorem ggL_law_L_build_wsX20 : GoodIn wsL_law wsX20 := goodIn_r _ [410, 411, 412, 413] (by decide +kernel) (by decide +kernel)
set_option maxRecDepth 20000 in
theorem ggL_law_L_build_wsX10 : GoodIn wsL_law wsX10 := goodIn_r _ [424, 425, 426, 427, 428, 429, 430, 431, 432, 433, 434, 435, 436, 437, 438, 439, 440] (by decide +kernel) (by decide +kernel)
set_option maxRecDepth 20000 in
theorem ggL_law_L_build_wsX00 : GoodIn wsL_law wsX00 := goodIn_r _ [441, 442, 443, 444, 445, 446, 447, 448, 449, 450, 451, 452, 453, 454, 455, 456] (by decide +kernel) (by decide +kernel)
set_option maxRecDepth 20000 in
theorem ggL_law_L_build : GoodIn wsL_law wsL_build := goodIn_ca (goodIn_ca (goodIn_ca (goodIn_one ggL_law_L_build_c (goodIn_app (goodIn_app (goodIn_app (goodIn_app (goodIn_app ggL_law_L_build_wsL_build_r1 (goodIn_app ggL_law_L_build_wsL_build_r2 (goodIn_app ggL_law_L_build_wsL_build_r3 (goodIn_app ggL_law_L_build_wsL_build_r4 (goodIn_app ggL_law_L_build_wsL_build_r5 (goodIn_app ggL_law_L_build_wsL_build_r6 (goodIn_app ggL_law_L_build_wsL_build_r7 ggL_law_L_build_wsL_build_r8))))))) ggL_law_L_build_wsX30) ggL_law_L_build_wsX20) ggL_law_L_build_wsX10) ggL_law_L_build_wsX00)) (goodIn_sub (fun _ h => List.mem_append_left _ (List.mem_append_left _ (List.mem_append_right _ h))) (by decide +kernel))) (goodIn_sub (fun _ h => List.mem_append_left _ (List.mem_append_right _ h)) (by decide +kernel))) (goodIn_sub (fun _ h => List.mem_append_right _ h) (by decide +kernel))
set_option maxRecDepth 20000 in
theorem gL_law_L_build : GoodIn wsL_law (va_wsS RL 99 yL_build wsL_build) := goodIn_app (goodIn_of _ (by decide +kernel)) ggL_law_L_build
set_option maxRecDepth 20000 in
theorem ggL_law_L_cell : GoodIn wsL_law wsL_cell := goodIn_r _ [86, 87] (by decide +kernel) (by decide +kernel)
set_option maxRecDepth 20000 in
theorem gL_law_L_cell : GoodIn wsL_law (va_wsS RL 12 yL_cell wsL_cell) := goodIn_app (goodIn_of _ (by decide +kernel)) ggL_law_L_cell
set_option maxRecDepth 20000 in
theorem ggL_law_L_act_c : GoodIn wsL_law [.code yL_act cL_act 9 (some .boolean)] := goodIn_sub (fun w h => (List.mem_singleton.mp h) ▸ List.mem_of_getElem? (i := 212) rfl) (by decide +kernel)
set_option maxRecDepth 20000 in
theorem ggL_law_L_act_wsL_act_r1 : GoodIn wsL_law wsL_act_r1 := goodIn_r _ [69, 71, 70, 64, 65, 66, 67, 213, 88, 89, 58, 90, 91, 164, 165, 166, 2, 167, 15, 158, 168, 121, 122, 123] (by decide +kernel) (by decide +kernel)
set_option maxRecDepth 20000 in
theorem ggL_law_L_act_wsL_act_r2 : GoodIn wsL_law wsL_act_r2 := goodIn_r _ [124, 125, 97, 98, 99, 100, 101, 169, 170, 171, 172, 173, 214, 215, 216, 217, 178, 19, 179, 218, 194, 195, 196, 5] (by decide +kernel) (by decide +kernel)
set_option maxRecDepth 20000 in
theorem ggL_law_L_act_wsL_act_r3 : GoodIn wsL_law wsL_act_r3 := goodIn_r _ [113, 114, 62, 115, 4, 197, 198, 199, 200, 105, 106, 201, 202, 203, 204, 14, 205, 37, 38, 102, 103, 104, 206, 207] (by decide +kernel) (by decide +kernel)
set_option maxRecDepth 20000 in
theorem ggL_law_L_act_wsL_act_r4 : GoodIn wsL_law wsL_act_r4 := goodIn_r _ [208, 209, 219, 220, 221, 222, 223, 224, 225, 226, 18, 227, 228, 42, 229, 230, 231, 232, 233, 234, 235, 46, 236, 237] (by decide +kernel) (by decide +kernel)
set_option maxRecDepth 20000 in
theorem ggL_law_L_act_wsL_act_r5 : GoodIn wsL_law wsL_act_r5 := goodIn_r _ [238, 239, 240, 241, 242, 186, 187, 188, 49, 189, 54, 190, 191, 192, 193, 51, 53, 243, 244, 245, 246, 78, 79, 247] (by decide +kernel) (by decide +kernel)
set_option maxRecDepth 20000 in
theorem ggL_law_L_act_wsL_act_r6 : GoodIn wsL_law wsL_act_r6 := goodIn_r _ [248, 249, 250, 251, 252] (by decide +kernel) (by decide +kernel)
set_option maxRecDepth 20000 in
theorem ggL_law_L_act_wsX30 : GoodIn wsL_law wsX30 := goodIn_r _ [414, 415, 416, 417, 418, 419, 420, 421, 422, 423] (by decide +kernel) (by decide +kernel)
set_option maxRecDepth 20000 in
theorem ggL_law_L_act_wsX20 : GoodIn wsL_law wsX20 := goodIn_r _ [410, 411, 412, 413] (by decide +kernel) (by decide +kernel)
set_option maxRecDepth 20000 in
theorem ggL_law_L_act_wsX10 : GoodIn wsL_law wsX10 := goodIn_r _ [424, 425, 426, 427, 428, 429, 430, 431, 432, 433, 434, 435, 436, 437, 438, 439, 440] (by decide +kernel) (by decide +kernel)
set_option maxRecDepth 20000 in
theorem ggL_law_L_act_wsX00 : GoodIn wsL_law wsX00 := goodIn_r _ [441, 442, 443, 444, 445, 446, 447, 448, 449, 450, 451, 452, 453, 454, 455, 456] (by decide +kernel) (by decide +kernel)
set_option maxRecDepth 20000 in
theorem ggL_law_L_act : GoodIn wsL_law wsL_act := goodIn_ca (goodIn_ca (goodIn_ca (goodIn_one ggL_law_L_act_c (goodIn_app (goodIn_app (goodIn_app (goodIn_app (goodIn_app ggL_law_L_act_wsL_act_r1 (goodIn_app ggL_law_L_act_wsL_act_r2 (goodIn_app ggL_law_L_act_wsL_act_r3 (goodIn_app ggL_law_L_act_wsL_act_r4 (goodIn_app ggL_law_L_act_wsL_act_r5 ggL_law_L_act_wsL_act_r6))))) ggL_law_L_act_wsX30) ggL_law_L_act_wsX20) ggL_law_L_act_wsX10) ggL_law_L_act_wsX00)) (goodIn_sub (fun _ h => List.mem_append_right _ h) (by decide +kernel))) (goodIn_sub (fun _ h => List.mem_append_left _ (List.mem_append_left _ (List.mem_append_right _ h))) (by decide +kernel))) (goodIn_sub (fun _ h => List.mem_append_left _ (List.mem_append_right _ h)) (by decide +kernel))
set_option maxRecDepth 20000 in
theorem gL_law_L_act : GoodIn wsL_law (va_wsS RL 103 yL_act wsL_act) := goodIn_app (goodIn_of _ (by decide +kernel)) ggL_law_L_act
set_option maxRecDepth 20000 in
theorem ggL_law_L_below : GoodIn wsL_law wsL_below := goodIn_r _ [90, 91] (by decide +kernel) (by decide +kernel)
set_option maxRecDepth 20000 in
theorem gL_law_L_below : GoodIn wsL_law (va_wsS RL 18 yL_below wsL_below) := goodIn_app (goodIn_of _ (by decide +kernel)) ggL_law_L_below
set_option maxRecDepth 20000 in
theorem ggL_law_X2_pass : GoodIn wsL_law wsX2_pass := goodIn_ca (goodIn_r _ [256, 19, 15, 97, 98, 2, 99, 100, 101, 257, 258, 259, 18, 260, 233, 261, 262, 263, 264, 265, 236, 51, 53, 266, 267, 268, 269, 270, 50, 43, 54, 52, 49, 271, 272, 273, 274, 275, 276, 46, 277, 278, 279, 280, 281, 282, 283, 14, 284, 32, 36, 27, 112, 285, 286, 287, 288, 31, 28, 29, 289, 290, 291, 292, 293, 294, 65, 66, 67, 44, 42, 241, 47, 55, 190, 191, 192, 193, 295, 296, 297, 298, 235, 299, 300, 301, 302, 303, 237, 238, 239, 240, 304, 305, 306, 307, 308, 48, 309, 310, 311, 312, 25, 135, 136, 137, 410, 411, 412, 413, 441, 442, 443, 444, 445, 446, 447, 448, 449, 450, 451, 452, 453, 454, 455, 456, 424, 425, 426, 427, 428, 429, 430, 431, 432, 433, 434, 435, 436, 437, 438, 439, 440] (by decide +kernel) (by decide +kernel)) (goodIn_sub (fun _ h => List.mem_append_left _ (List.mem_append_left _ (List.mem_append_right _ h))) (by decide +kernel))
set_option maxRecDepth 20000 in
theorem gL_law_X2_pass : GoodIn wsL_law (wsV RL 107 RX2 yX2_pass wsX2_pass) := goodIn_app (goodIn_of _ (by decide +kernel)) ggL_law_X2_pass
set_option maxRecDepth 20000 in
theorem ggL_law_X3_pass_ : GoodIn wsL_law wsX3_pass_ := goodIn_r _ [316, 247, 317, 318, 319, 62, 320, 79, 78, 321, 75, 77, 322, 136, 66, 137, 81, 323, 324, 325, 326, 80, 83, 327, 328, 329, 330, 414, 415, 416, 417, 418, 419, 420, 421, 422, 423] (by decide +kernel) (by decide +kernel)
set_option maxRecDepth 20000 in
theorem gL_law_X3_pass_ : GoodIn wsL_law (wsV RL 110 RX3 yX3_pass_ wsX3_pass_) := goodIn_app (goodIn_of _ (by decide +kernel)) ggL_law_X3_pass_
set_option maxRecDepth 20000 in
theorem ggL_law_X2_count : GoodIn wsL_law wsX2_count := goodIn_ca (goodIn_r _ [334, 19, 223, 335, 15, 96, 120, 158, 178, 336, 121, 122, 2, 123, 124, 125, 224, 225, 226, 18, 227, 228, 42, 337, 338, 339, 340, 341, 342, 343, 344, 345, 346, 347, 348, 235, 43, 410, 411, 412, 413, 441, 442, 443, 444, 445, 446, 447, 448, 449, 450, 451, 452, 453, 454, 455, 456, 424, 425, 426, 427, 428, 429, 430, 431, 432, 433, 434, 435, 436, 437, 438, 439, 440] (by decide +kernel) (by decide +kernel)) (goodIn_sub (fun _ h => List.mem_append_right _ h) (by decide +kernel))
set_option maxRecDepth 20000 in
theorem gL_law_X2_count : GoodIn wsL_law (wsV RL 113 RX2 yX2_count wsX2_count) := goodIn_app (goodIn_of _ (by decide +kernel)) ggL_law_X2_count
set_option maxRecDepth 20000 in
theorem ggL_law_X2_told : GoodIn wsL_law wsX2_told := goodIn_ca (goodIn_r _ [352, 15, 158, 353, 354, 168, 19, 355, 356, 357, 358, 359, 121, 122, 2, 123, 124, 125, 360, 278, 279, 18, 280, 236, 51, 410, 411, 412, 413, 424, 425, 426, 427, 428, 429, 430, 431, 432, 433, 434, 435, 436, 437, 438, 439, 440, 441, 442, 443, 444, 445, 446, 447, 448, 449, 450, 451, 452, 453, 454, 455, 456] (by decide +kernel) (by decide +kernel)) (goodIn_sub (fun _ h => List.mem_append_right _ h) (by decide +kernel))
set_option maxRecDepth 20000 in
theorem gL_law_X2_told : GoodIn wsL_law (wsV RL 117 RX2 yX2_told wsX2_told) := goodIn_app (goodIn_of _ (by decide +kernel)) ggL_law_X2_told
set_option maxRecDepth 20000 in
theorem ggL_law_X2_lighter : GoodIn wsL_law wsX2_lighter := goodIn_ca (goodIn_r _ [364, 15, 178, 19, 365, 366, 179, 201, 367, 368, 369, 121, 122, 2, 123, 124, 125, 410, 411, 412, 413, 424, 425, 426, 427, 428, 429, 430, 431, 432, 433, 434, 435, 436, 437, 438, 439, 440, 441, 442, 443, 444, 445, 446, 447, 448, 449, 450, 451, 452, 453, 454, 455, 456] (by decide +kernel) (by decide +kernel)) (goodIn_sub (fun _ h => List.mem_append_right _ h) (by decide +kernel))
set_option maxRecDepth 20000 in
theorem gL_law_X2_lighter : GoodIn wsL_law (wsV RL 120 RX2 yX2_lighter wsX2_lighter) := goodIn_app (goodIn_of _ (by decide +kernel)) ggL_law_X2_lighter
set_option maxRecDepth 20000 in
theorem ggL_law_X2_comes : GoodIn wsL_law wsX2_comes := goodIn_ca (goodIn_r _ [373, 15, 158, 20, 19, 223, 358, 121, 122, 2, 123, 124, 125, 374, 375, 376, 18, 377, 233, 234, 303, 42, 378, 379, 380, 381, 43, 44, 46, 47, 48, 49, 50, 51, 52, 53, 54, 55, 257, 258, 259, 260, 261, 262, 263, 264, 265, 236, 266, 267, 268, 269, 270, 271, 272, 273, 274, 275, 276, 277, 278, 279, 280, 281, 282, 283, 14, 284, 32, 36, 27, 112, 285, 286, 287, 288, 31, 28, 29, 289, 290, 291, 292, 293, 294, 65, 66, 67, 241, 190, 191, 192, 193, 295, 296, 297, 298, 235, 299, 300, 301, 302, 237, 238, 239, 240, 304, 305, 306, 307, 308, 309, 310, 311, 312, 25, 135, 136, 137, 410, 411, 412, 413, 424, 425, 426, 427, 428, 429, 430, 431, 432, 433, 434, 435, 436, 437, 438, 439, 440, 441, 442, 443, 444, 445, 446, 447, 448, 449, 450, 451, 452, 453, 454, 455, 456] (by decide +kernel) (by decide +kernel)) (goodIn_sub (fun _ h => List.mem_append_right _ h) (by decide +kernel))
set_option maxRecDepth 20000 in
theorem gL_law_X2_comes : GoodIn wsL_law (wsV RL 123 RX2 yX2_comes wsX2_comes) := goodIn_app (goodIn_of _ (by decide +kernel)) ggL_law_X2_comes
set_option maxRecDepth 20000 in
theorem ggL_law_X2_foresee_c : GoodIn wsL_law [.code yX2_foresee cX2_foresee 3 (some .int)] := goodIn_sub (fun w h => (List.mem_singleton.mp h) ▸ List.mem_of_getElem? (i := 385) rfl) (by decide +kernel)
set_option maxRecDepth 20000 in
theorem ggL_law_X2_foresee_wsX2_foresee_r1 : GoodIn wsL_law wsX2_foresee_r1 := goodIn_r _ [20, 19, 15, 336, 97, 98, 2, 99, 100, 101, 121, 122, 123, 124, 125, 374, 375, 376, 18, 377, 233, 234, 303, 42] (by decide +kernel) (by decide +kernel)
set_option maxRecDepth 20000 in
theorem ggL_law_X2_foresee_wsX2_foresee_r2 : GoodIn wsL_law wsX2_foresee_r2 := goodIn_r _ [378, 379, 380, 381, 43, 44, 46, 47, 48, 49, 50, 51, 52, 53, 54, 55, 257, 258, 259, 260, 261, 262, 263, 264] (by decide +kernel) (by decide +kernel)
set_option maxRecDepth 20000 in
theorem ggL_law_X2_foresee_wsX2_foresee_r3 : GoodIn wsL_law wsX2_foresee_r3 := goodIn_r _ [265, 236, 266, 267, 268, 269, 270, 271, 272, 273, 274, 275, 276, 277, 278, 279, 280, 281, 282, 283, 14, 284, 32, 36] (by decide +kernel) (by decide +kernel)
set_option maxRecDepth 20000 in
theorem ggL_law_X2_foresee_wsX2_foresee_r4 : GoodIn wsL_law wsX2_foresee_r4 := goodIn_r _ [27, 112, 285, 286, 287, 288, 31, 28, 29, 289, 290, 291, 292, 293, 294, 65, 66, 67, 241, 190, 191, 192, 193, 295] (by decide +kernel) (by decide +kernel)
set_option maxRecDepth 20000 in
theorem ggL_law_X2_foresee_wsX2_foresee_r5 : GoodIn wsL_law wsX2_foresee_r5 := goodIn_r _ [296, 297, 298, 235, 299, 300, 301, 302, 237, 238, 239, 240, 304, 305, 306, 307, 308, 309, 310, 311, 312, 25, 135, 136] (by decide +kernel) (by decide +kernel)
set_option maxRecDepth 20000 in
theorem ggL_law_X2_foresee_wsX2_foresee_r6 : GoodIn wsL_law wsX2_foresee_r6 := goodIn_r _ [137, 224, 225, 226, 227, 228, 337, 338, 339, 340, 341, 342, 343, 344] (by decide +kernel) (by decide +kernel)
set_option maxRecDepth 20000 in
theorem ggL_law_X2_foresee_wsX20 : GoodIn wsL_law wsX20 := goodIn_r _ [410, 411, 412, 413] (by decide +kernel) (by decide +kernel)
set_option maxRecDepth 20000 in
theorem ggL_law_X2_foresee_wsX00 : GoodIn wsL_law wsX00 := goodIn_r _ [441, 442, 443, 444, 445, 446, 447, 448, 449, 450, 451, 452, 453, 454, 455, 456] (by decide +kernel) (by decide +kernel)
set_option maxRecDepth 20000 in
theorem ggL_law_X2_foresee_wsX10 : GoodIn wsL_law wsX10 := goodIn_r _ [424, 425, 426, 427, 428, 429, 430, 431, 432, 433, 434, 435, 436, 437, 438, 439, 440] (by decide +kernel) (by decide +kernel)
set_option maxRecDepth 20000 in
theorem ggL_law_X2_foresee : GoodIn wsL_law wsX2_foresee := goodIn_ca (goodIn_ca (goodIn_one ggL_law_X2_foresee_c (goodIn_app (goodIn_app (goodIn_app (goodIn_app ggL_law_X2_foresee_wsX2_foresee_r1 (goodIn_app ggL_law_X2_foresee_wsX2_foresee_r2 (goodIn_app ggL_law_X2_foresee_wsX2_foresee_r3 (goodIn_app ggL_law_X2_foresee_wsX2_foresee_r4 (goodIn_app ggL_law_X2_foresee_wsX2_foresee_r5 ggL_law_X2_foresee_wsX2_foresee_r6))))) ggL_law_X2_foresee_wsX20) ggL_law_X2_foresee_wsX00) ggL_law_X2_foresee_wsX10)) (goodIn_sub (fun _ h => List.mem_append_left _ (List.mem_append_left _ (List.mem_append_right _ h))) (by decide +kernel))) (goodIn_sub (fun _ h => List.mem_append_right _ h) (by decide +kernel))
set_option maxRecDepth 20000 in
theorem gL_law_X2_foresee : GoodIn wsL_law (wsV RL 126 RX2 yX2_foresee wsX2_foresee) := goodIn_app (goodIn_of _ (by decide +kernel)) ggL_law_X2_foresee
set_option maxRecDepth 20000 in
theorem ggL_law_X3_isSame : GoodIn wsL_law wsX3_isSame := goodIn_ca (goodIn_r _ [389, 78, 4, 79, 80, 77, 247, 248, 75, 321, 327, 328, 329, 62, 330, 390, 350, 351, 2, 352, 15, 158, 353, 354, 168, 19, 355, 356, 357, 358, 359, 121, 122, 123, 124, 125, 360, 278, 279, 18, 280, 236, 51, 391, 362, 363, 364, 178, 365, 366, 179, 201, 367, 368, 369, 392, 393, 394, 395, 120, 396, 397, 398, 399, 400, 249, 250, 251, 252, 401, 402, 403, 404, 405, 332, 333, 334, 223, 335, 96, 336, 224, 225, 226, 227, 228, 42, 337, 338, 339, 340, 341, 342, 343, 344, 345, 346, 347, 348, 235, 43, 406, 407, 408, 409, 414, 415, 416, 417, 418, 419, 420, 421, 422, 423, 410, 411, 412, 413, 424, 425, 426, 427, 428, 429, 430, 431, 432, 433, 434, 435, 436, 437, 438, 439, 440, 441, 442, 443, 444, 445, 446, 447, 448, 449, 450, 451, 452, 453, 454, 455, 456] (by decide +kernel) (by decide +kernel)) (goodIn_sub (fun _ h => List.mem_append_right _ h) (by decide +kernel))
set_option maxRecDepth 20000 in
theorem gL_law_X3_isSame : GoodIn wsL_law (wsV RL 129 RX3 yX3_isSame wsX3_isSame) := goodIn_app (goodIn_of _ (by decide +kernel)) ggL_law_X3_isSame
