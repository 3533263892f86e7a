set_option maxRecDepth 20000 in
theorem ggL_law_X2_init : GoodIn wsL_law wsX2_init := goodIn_r _ [9, 10, 11, 12, 13, 14, 15, 16, 17, 18, 19, 20, 21, 22, 23, 24, 25, 26, 27, 28, 29, 30, 31, 32, 33, 34, 35, 36, 37, 38, 39, 40, 41, 42, 43, 44, 45, 46, 47, 48, 49, 50, 51, 52, 53, 54, 55, 56, 57, 681, 682, 683, 684, 685, 686, 687, 688, 689, 690, 691, 692, 693, 694, 695, 696, 697, 664, 665, 666, 667, 698, 699, 700, 701, 702, 703, 704, 705, 706, 707, 708, 709, 710, 711, 712, 713] (by decide +kernel) (by decide +kernel)
set_option maxRecDepth 20000 in
theorem gL_law_X2_init : GoodIn wsL_law (wsX2_init) := ggL_law_X2_init
set_option maxRecDepth 20000 in
theorem ggL_law_X3_init : GoodIn wsL_law wsX3_init := goodIn_r _ [60, 61, 11, 12, 22, 62, 63, 64, 65, 66, 67, 68, 69, 668, 669, 670, 671, 672, 673, 674, 675, 676, 677, 678, 679, 680] (by decide +kernel) (by decide +kernel)
set_option maxRecDepth 20000 in
theorem gL_law_X3_init : GoodIn wsL_law (wsX3_init) := ggL_law_X3_init
set_option maxRecDepth 20000 in
theorem ggL_law_L_corner : GoodIn wsL_law wsL_corner := goodIn_ca (goodIn_ca (goodIn_r _ [73, 74, 75, 76, 77, 78, 2, 79, 16, 80, 81, 82, 83, 84, 85, 86, 87, 88, 89, 90, 91, 92, 93, 15, 94, 95, 27, 29, 96, 664, 665, 666, 667, 681, 682, 683, 684, 685, 686, 687, 688, 689, 690, 691, 692, 693, 694, 695, 696, 697] (by decide +kernel) (by decide +kernel)) (goodIn_sub (fun _ h => List.mem_append_left _ (List.mem_append_left _ (List.mem_append_right _ h))) (by decide +kernel))) (goodIn_sub (fun _ h => List.mem_append_left _ (List.mem_append_right _ h)) (by decide +kernel))
set_option maxRecDepth 20000 in
theorem gL_law_L_corner : GoodIn wsL_law (va_wsS RL 77 yL_corner wsL_corner) := goodIn_app (goodIn_of _ (by decide +kernel)) ggL_law_L_corner
set_option maxRecDepth 20000 in
theorem ggL_law_X3_corner : GoodIn wsL_law wsX3_corner := goodIn_r _ [100, 101, 102, 62, 103, 104, 5, 105, 106, 107, 108, 109, 110, 111, 112, 113, 64, 114, 115, 116, 117, 118, 119, 120, 121, 122, 123, 124, 125, 63, 668, 669, 670, 671, 672, 673, 674, 675, 676, 677, 678, 679, 680] (by decide +kernel) (by decide +kernel)
set_option maxRecDepth 20000 in
theorem gL_law_X3_corner : GoodIn wsL_law (wsV RL 82 RX3 yX3_corner wsX3_corner) := goodIn_app (goodIn_of _ (by decide +kernel)) ggL_law_X3_corner
set_option maxRecDepth 20000 in
theorem ggL_law_X3_thrown : GoodIn wsL_law wsX3_thrown := goodIn_r _ [129, 101, 668, 669, 670, 671, 672, 673, 674, 675, 676, 677, 678, 679, 680] (by decide +kernel) (by decide +kernel)
set_option maxRecDepth 20000 in
theorem gL_law_X3_thrown : GoodIn wsL_law (wsV RL 83 RX3 yX3_thrown wsX3_thrown) := goodIn_app (goodIn_of _ (by decide +kernel)) ggL_law_X3_thrown
set_option maxRecDepth 20000 in
theorem ggL_law_L_street : GoodIn wsL_law wsL_street := goodIn_ca (goodIn_ca (goodIn_ca (goodIn_r _ [132, 133, 74, 75, 134, 135, 136, 2, 137, 84, 85, 16, 80, 138, 139, 140, 141, 142, 143, 81, 82, 83, 86, 87, 88, 89, 90, 144, 145, 146, 15, 147, 148, 30, 31, 32, 149, 150, 151, 152, 27, 153, 116, 117, 118, 154, 155, 156, 157, 95, 29, 158, 120, 121, 664, 665, 666, 667, 681, 682, 683, 684, 685, 686, 687, 688, 689, 690, 691, 692, 693, 694, 695, 696, 697] (by decide +kernel) (by decide +kernel)) (goodIn_sub (fun _ h => List.mem_append_left _ (List.mem_append_left _ (List.mem_append_right _ h))) (by decide +kernel))) (goodIn_sub (fun _ h => List.mem_append_right _ h) (by decide +kernel))) (goodIn_sub (fun _ h => List.mem_append_left _ (List.mem_append_right _ h)) (by decide +kernel))
set_option maxRecDepth 20000 in
theorem gL_law_L_street : GoodIn wsL_law (va_wsS RL 86 yL_street wsL_street) := goodIn_app (goodIn_of _ (by decide +kernel)) ggL_law_L_street
set_option maxRecDepth 20000 in
theorem ggL_law_X3_street : GoodIn wsL_law wsX3_street := goodIn_r _ [162, 101, 114, 22, 63, 163, 164, 165, 166, 167, 168, 169, 5, 170, 102, 103, 104, 105, 106, 107, 108, 109, 110, 111, 112, 113, 64, 62, 115, 116, 117, 118, 119, 120, 121, 122, 123, 124, 125, 668, 669, 670, 671, 672, 673, 674, 675, 676, 677, 678, 679, 680] (by decide +kernel) (by decide +kernel)
set_option maxRecDepth 20000 in
theorem gL_law_X3_street : GoodIn wsL_law (wsV RL 89 RX3 yX3_street wsX3_street) := goodIn_app (goodIn_of _ (by decide +kernel)) ggL_law_X3_street
set_option maxRecDepth 20000 in
theorem ggL_law_L_lamp : GoodIn wsL_law wsL_lamp := goodIn_ca (goodIn_ca (goodIn_ca (goodIn_r _ [173, 133, 74, 75, 174, 175, 176, 2, 177, 16, 138, 178, 139, 140, 141, 142, 143, 81, 82, 83, 84, 85, 86, 87, 88, 89, 90, 179, 180, 181, 15, 182, 183, 33, 34, 664, 665, 666, 667, 681, 682, 683, 684, 685, 686, 687, 688, 689, 690, 691, 692, 693, 694, 695, 696, 697] (by decide +kernel) (by decide +kernel)) (goodIn_sub (fun _ h => List.mem_append_right _ h) (by decide +kernel))) (goodIn_sub (fun _ h => List.mem_append_left _ (List.mem_append_left _ (List.mem_append_right _ h))) (by decide +kernel))) (goodIn_sub (fun _ h => List.mem_append_left _ (List.mem_append_right _ h)) (by decide +kernel))
set_option maxRecDepth 20000 in
theorem gL_law_L_lamp : GoodIn wsL_law (va_wsS RL 90 yL_lamp wsL_lamp) := goodIn_app (goodIn_of _ (by decide +kernel)) ggL_law_L_lamp
set_option maxRecDepth 20000 in
theorem ggL_law_X3_lamp : GoodIn wsL_law wsX3_lamp := goodIn_r _ [187, 101, 188, 22, 65, 163, 164, 165, 166, 189, 190, 191, 5, 192, 114, 103, 104, 105, 106, 107, 108, 109, 668, 669, 670, 671, 672, 673, 674, 675, 676, 677, 678, 679, 680] (by decide +kernel) (by decide +kernel)
set_option maxRecDepth 20000 in
theorem gL_law_X3_lamp : GoodIn wsL_law (wsV RL 93 RX3 yX3_lamp wsX3_lamp) := goodIn_app (goodIn_of _ (by decide +kernel)) ggL_law_X3_lamp
set_option maxRecDepth 20000 in
theorem ggL_law_L_lid : GoodIn wsL_law wsL_lid := goodIn_ca (goodIn_ca (goodIn_r _ [195, 133, 74, 196, 197, 198, 2, 199, 16, 178, 200, 139, 140, 141, 142, 143, 81, 82, 83, 84, 85, 664, 665, 666, 667, 681, 682, 683, 684, 685, 686, 687, 688, 689, 690, 691, 692, 693, 694, 695, 696, 697] (by decide +kernel) (by decide +kernel)) (goodIn_sub (fun _ h => List.mem_append_right _ h) (by decide +kernel))) (goodIn_sub (fun _ h => List.mem_append_left _ (List.mem_append_left _ (List.mem_append_right _ h))) (by decide +kernel))
set_option maxRecDepth 20000 in
theorem gL_law_L_lid : GoodIn wsL_law (va_wsS RL 94 yL_lid wsL_lid) := goodIn_app (goodIn_of _ (by decide +kernel)) ggL_law_L_lid
set_option maxRecDepth 20000 in
theorem ggL_law_X3_lid : GoodIn wsL_law wsX3_lid := goodIn_r _ [204, 101, 205, 206, 207, 5, 208, 188, 103, 104, 105, 106, 107, 108, 109, 209, 210, 211, 212, 65, 213, 214, 215, 216, 668, 669, 670, 671, 672, 673, 674, 675, 676, 677, 678, 679, 680] (by decide +kernel) (by decide +kernel)
set_option maxRecDepth 20000 in
theorem gL_law_X3_lid : GoodIn wsL_law (wsV RL 96 RX3 yX3_lid wsX3_lid) := goodIn_app (goodIn_of _ (by decide +kernel)) ggL_law_X3_lid
set_option maxRecDepth 20000 in
theorem ggL_law_L_setWind : GoodIn wsL_law wsL_setWind := goodIn_ca (goodIn_ca (goodIn_r _ [219, 133, 74, 220, 221, 222, 2, 223, 16, 224, 139, 140, 141, 142, 143, 81, 82, 83, 84, 85, 664, 665, 666, 667, 681, 682, 683, 684, 685, 686, 687, 688, 689, 690, 691, 692, 693, 694, 695, 696, 697] (by decide +kernel) (by decide +kernel)) (goodIn_sub (fun _ h => List.mem_append_right _ h) (by decide +kernel))) (goodIn_sub (fun _ h => List.mem_append_left _ (List.mem_append_left _ (List.mem_append_right _ h))) (by decide +kernel))
set_option maxRecDepth 20000 in
theorem gL_law_L_setWind : GoodIn wsL_law (va_wsS RL 97 yL_setWind wsL_setWind) := goodIn_app (goodIn_of _ (by decide +kernel)) ggL_law_L_setWind
set_option maxRecDepth 20000 in
theorem ggL_law_X3_setWind : GoodIn wsL_law wsX3_setWind := goodIn_r _ [228, 101, 68, 103, 104, 5, 105, 106, 107, 108, 109, 668, 669, 670, 671, 672, 673, 674, 675, 676, 677, 678, 679, 680] (by decide +kernel) (by decide +kernel)
set_option maxRecDepth 20000 in
theorem gL_law_X3_setWind : GoodIn wsL_law (wsV RL 99 RX3 yX3_setWind wsX3_setWind) := goodIn_app (goodIn_of _ (by decide +kernel)) ggL_law_X3_setWind
set_option maxRecDepth 20000 in
theorem ggL_law_L_hire : GoodIn wsL_law wsL_hire := goodIn_ca (goodIn_ca (goodIn_ca (goodIn_r _ [231, 133, 74, 75, 232, 233, 234, 2, 235, 16, 80, 236, 20, 237, 139, 140, 141, 142, 143, 81, 82, 83, 84, 85, 86, 87, 88, 89, 90, 238, 239, 240, 15, 241, 242, 37, 38, 243, 244, 245, 19, 246, 51, 247, 56, 248, 249, 250, 251, 53, 55, 664, 665, 666, 667, 681, 682, 683, 684, 685, 686, 687, 688, 689, 690, 691, 692, 693, 694, 695, 696, 697, 698, 699, 700, 701, 702, 703, 704, 705, 706, 707, 708, 709, 710, 711, 712, 713] (by decide +kernel) (by decide +kernel)) (goodIn_sub (fun _ h => List.mem_append_right _ h) (by decide +kernel))) (goodIn_sub (fun _ h => List.mem_append_left _ (List.mem_append_left _ (List.mem_append_right _ h))) (by decide +kernel))) (goodIn_sub (fun _ h => List.mem_append_left _ (List.mem_append_right _ h)) (by decide +kernel))
set_option maxRecDepth 20000 in
theorem gL_law_L_hire : GoodIn wsL_law (va_wsS RL 100 yL_hire wsL_hire) := goodIn_app (goodIn_of _ (by decide +kernel)) ggL_law_L_hire
set_option maxRecDepth 20000 in
theorem ggL_law_X3_hire : GoodIn wsL_law wsX3_hire := goodIn_r _ [255, 101, 256, 22, 66, 163, 164, 165, 166, 167, 168, 169, 5, 170, 102, 103, 104, 105, 106, 107, 108, 109, 668, 669, 670, 671, 672, 673, 674, 675, 676, 677, 678, 679, 680] (by decide +kernel) (by decide +kernel)
set_option maxRecDepth 20000 in
theorem gL_law_X3_hire : GoodIn wsL_law (wsV RL 102 RX3 yX3_hire wsX3_hire) := goodIn_app (goodIn_of _ (by decide +kernel)) ggL_law_X3_hire
set_option maxRecDepth 20000 in
theorem ggL_law_L_round : GoodIn wsL_law wsL_round := goodIn_ca (goodIn_ca (goodIn_r _ [259, 133, 75, 260, 261, 262, 2, 263, 89, 90, 16, 236, 178, 264, 139, 140, 141, 142, 143, 265, 266, 267, 15, 268, 39, 40, 86, 87, 88, 269, 270, 271, 272, 664, 665, 666, 667, 681, 682, 683, 684, 685, 686, 687, 688, 689, 690, 691, 692, 693, 694, 695, 696, 697] (by decide +kernel) (by decide +kernel)) (goodIn_sub (fun _ h => List.mem_append_left _ (List.mem_append_right _ h)) (by decide +kernel))) (goodIn_sub (fun _ h => List.mem_append_right _ h) (by decide +kernel))
set_option maxRecDepth 20000 in
theorem gL_law_L_round : GoodIn wsL_law (va_wsS RL 103 yL_round wsL_round) := goodIn_app (goodIn_of _ (by decide +kernel)) ggL_law_L_round
set_option maxRecDepth 20000 in
theorem ggL_law_X3_round : GoodIn wsL_law wsX3_round := goodIn_r _ [276, 101, 67, 277, 278, 279, 5, 280, 256, 103, 104, 105, 205, 206, 207, 208, 188, 106, 107, 108, 109, 281, 282, 283, 284, 66, 285, 286, 287, 288, 668, 669, 670, 671, 672, 673, 674, 675, 676, 677, 678, 679, 680] (by decide +kernel) (by decide +kernel)
set_option maxRecDepth 20000 in
theorem gL_law_X3_round : GoodIn wsL_law (wsV RL 105 RX3 yX3_round wsX3_round) := goodIn_app (goodIn_of _ (by decide +kernel)) ggL_law_X3_round
set_option maxRecDepth 20000 in
theorem ggL_law_L_fill : GoodIn wsL_law wsL_fill := goodIn_ca (goodIn_ca (goodIn_r _ [291, 133, 74, 292, 293, 294, 2, 295, 16, 236, 20, 237, 296, 120, 117, 121, 139, 140, 141, 142, 143, 81, 82, 83, 84, 85, 664, 665, 666, 667, 681, 682, 683, 684, 685, 686, 687, 688, 689, 690, 691, 692, 693, 694, 695, 696, 697, 698, 699, 700, 701, 702, 703, 704, 705, 706, 707, 708, 709, 710, 711, 712, 713] (by decide +kernel) (by decide +kernel)) (goodIn_sub (fun _ h => List.mem_append_right _ h) (by decide +kernel))) (goodIn_sub (fun _ h => List.mem_append_left _ (List.mem_append_left _ (List.mem_append_right _ h))) (by decide +kernel))
set_option maxRecDepth 20000 in
theorem gL_law_L_fill : GoodIn wsL_law (va_wsS RL 106 yL_fill wsL_fill) := goodIn_app (goodIn_of _ (by decide +kernel)) ggL_law_L_fill
set_option maxRecDepth 20000 in
theorem ggL_law_X3_fill : GoodIn wsL_law wsX3_fill := goodIn_r _ [300, 101, 119, 120, 117, 121, 277, 278, 279, 5, 280, 256, 103, 104, 105, 106, 107, 108, 109, 281, 282, 283, 284, 66, 285, 286, 287, 288, 668, 669, 670, 671, 672, 673, 674, 675, 676, 677, 678, 679, 680] (by decide +kernel) (by decide +kernel)
set_option maxRecDepth 20000 in
theorem gL_law_X3_fill : GoodIn wsL_law (wsV RL 108 RX3 yX3_fill wsX3_fill) := goodIn_app (goodIn_of _ (by decide +kernel)) ggL_law_X3_fill
set_option maxRecDepth 20000 in
theorem ggL_law_L_way : GoodIn wsL_law wsL_way := goodIn_ca (goodIn_r _ [303, 133, 304, 305, 306, 2, 307, 16, 80, 308, 309, 139, 140, 141, 142, 143, 664, 665, 666, 667, 681, 682, 683, 684, 685, 686, 687, 688, 689, 690, 691, 692, 693, 694, 695, 696, 697] (by decide +kernel) (by decide +kernel)) (goodIn_sub (fun _ h => List.mem_append_right _ h) (by decide +kernel))
set_option maxRecDepth 20000 in
theorem gL_law_L_way : GoodIn wsL_law (va_wsS RL 109 yL_way wsL_way) := goodIn_app (goodIn_of _ (by decide +kernel)) ggL_law_L_way
set_option maxRecDepth 20000 in
theorem ggL_law_X3_way : GoodIn wsL_law wsX3_way := goodIn_r _ [313, 101, 167, 168, 169, 5, 170, 102, 103, 104, 105, 106, 107, 108, 109, 314, 315, 316, 317, 64, 119, 120, 117, 121, 668, 669, 670, 671, 672, 673, 674, 675, 676, 677, 678, 679, 680] (by decide +kernel) (by decide +kernel)
set_option maxRecDepth 20000 in
theorem gL_law_X3_way : GoodIn wsL_law (wsV RL 111 RX3 yX3_way wsX3_way) := goodIn_app (goodIn_of _ (by decide +kernel)) ggL_law_X3_way
set_option maxRecDepth 20000 in
theorem ggL_law_L_told : GoodIn wsL_law wsL_told := goodIn_ca (goodIn_r _ [320, 133, 321, 322, 323, 2, 324, 16, 178, 325, 326, 200, 20, 327, 328, 329, 330, 331, 139, 140, 141, 142, 143, 332, 333, 334, 19, 335, 336, 53, 664, 665, 666, 667, 681, 682, 683, 684, 685, 686, 687, 688, 689, 690, 691, 692, 693, 694, 695, 696, 697, 698, 699, 700, 701, 702, 703, 704, 705, 706, 707, 708, 709, 710, 711, 712, 713] (by decide +kernel) (by decide +kernel)) (goodIn_sub (fun _ h => List.mem_append_right _ h) (by decide +kernel))
set_option maxRecDepth 20000 in
theorem gL_law_L_told : GoodIn wsL_law (va_wsS RL 112 yL_told wsL_told) := goodIn_app (goodIn_of _ (by decide +kernel)) ggL_law_L_told
set_option maxRecDepth 20000 in
theorem ggL_law_X3_told : GoodIn wsL_law wsX3_told := goodIn_r _ [340, 101, 205, 206, 207, 5, 208, 188, 103, 104, 105, 341, 342, 343, 344, 209, 210, 211, 212, 65, 345, 346, 347, 348, 256, 281, 282, 283, 284, 66, 106, 107, 108, 109, 668, 669, 670, 671, 672, 673, 674, 675, 676, 677, 678, 679, 680] (by decide +kernel) (by decide +kernel)
set_option maxRecDepth 20000 in
theorem gL_law_X3_told : GoodIn wsL_law (wsV RL 114 RX3 yX3_told wsX3_told) := goodIn_app (goodIn_of _ (by decide +kernel)) ggL_law_X3_told
set_option maxRecDepth 20000 in
theorem ggL_law_L_lighter : GoodIn wsL_law wsL_lighter := goodIn_ca (goodIn_r _ [351, 133, 352, 353, 354, 2, 355, 16, 236, 20, 356, 357, 237, 264, 358, 359, 360, 139, 140, 141, 142, 143, 664, 665, 666, 667, 681, 682, 683, 684, 685, 686, 687, 688, 689, 690, 691, 692, 693, 694, 695, 696, 697, 698, 699, 700, 701, 702, 703, 704, 705, 706, 707, 708, 709, 710, 711, 712, 713] (by decide +kernel) (by decide +kernel)) (goodIn_sub (fun _ h => List.mem_append_right _ h) (by decide +kernel))
set_option maxRecDepth 20000 in
theorem gL_law_L_lighter : GoodIn wsL_law (va_wsS RL 115 yL_lighter wsL_lighter) := goodIn_app (goodIn_of _ (by decide +kernel)) ggL_law_L_lighter
set_option maxRecDepth 20000 in
theorem ggL_law_X3_lighter : GoodIn wsL_law wsX3_lighter := goodIn_r _ [364, 101, 277, 278, 279, 5, 280, 256, 103, 104, 105, 365, 366, 367, 368, 22, 281, 282, 283, 284, 66, 106, 107, 108, 109, 668, 669, 670, 671, 672, 673, 674, 675, 676, 677, 678, 679, 680] (by decide +kernel) (by decide +kernel)
set_option maxRecDepth 20000 in
theorem gL_law_X3_lighter : GoodIn wsL_law (wsV RL 117 RX3 yX3_lighter wsX3_lighter) := goodIn_app (goodIn_of _ (by decide +kernel)) ggL_law_X3_lighter
set_option maxRecDepth 20000 in
theorem ggL_law_L_burning : GoodIn wsL_law wsL_burning := goodIn_ca (goodIn_r _ [371, 133, 372, 373, 374, 2, 375, 16, 138, 20, 376, 139, 140, 141, 142, 143, 664, 665, 666, 667, 681, 682, 683, 684, 685, 686, 687, 688, 689, 690, 691, 692, 693, 694, 695, 696, 697, 698, 699, 700, 701, 702, 703, 704, 705, 706, 707, 708, 709, 710, 711, 712, 713] (by decide +kernel) (by decide +kernel)) (goodIn_sub (fun _ h => List.mem_append_right _ h) (by decide +kernel))
set_option maxRecDepth 20000 in
theorem gL_law_L_burning : GoodIn wsL_law (va_wsS RL 118 yL_burning wsL_burning) := goodIn_app (goodIn_of _ (by decide +kernel)) ggL_law_L_burning
set_option maxRecDepth 20000 in
theorem ggL_law_X3_burning : GoodIn wsL_law wsX3_burning := goodIn_r _ [380, 101, 189, 190, 191, 5, 192, 114, 103, 104, 105, 381, 382, 383, 384, 188, 209, 210, 211, 212, 65, 106, 107, 108, 109, 668, 669, 670, 671, 672, 673, 674, 675, 676, 677, 678, 679, 680] (by decide +kernel) (by decide +kernel)
set_option maxRecDepth 20000 in
theorem gL_law_X3_burning : GoodIn wsL_law (wsV RL 120 RX3 yX3_burning wsX3_burning) := goodIn_app (goodIn_of _ (by decide +kernel)) ggL_law_X3_burning
set_option maxRecDepth 20000 in
theorem ggL_law_L_count : GoodIn wsL_law wsL_count := goodIn_ca (goodIn_r _ [387, 133, 388, 389, 390, 2, 391, 20, 392, 393, 16, 80, 138, 178, 236, 394, 139, 140, 141, 142, 143, 395, 396, 397, 19, 398, 399, 44, 400, 401, 402, 403, 404, 405, 406, 407, 408, 409, 410, 411, 412, 45, 664, 665, 666, 667, 698, 699, 700, 701, 702, 703, 704, 705, 706, 707, 708, 709, 710, 711, 712, 713, 681, 682, 683, 684, 685, 686, 687, 688, 689, 690, 691, 692, 693, 694, 695, 696, 697] (by decide +kernel) (by decide +kernel)) (goodIn_sub (fun _ h => List.mem_append_right _ h) (by decide +kernel))
set_option maxRecDepth 20000 in
theorem gL_law_L_count : GoodIn wsL_law (va_wsS RL 121 yL_count wsL_count) := goodIn_app (goodIn_of _ (by decide +kernel)) ggL_law_L_count
set_option maxRecDepth 20000 in
theorem ggL_law_X3_count : GoodIn wsL_law wsX3_count := goodIn_r _ [416, 101, 103, 104, 5, 105, 417, 418, 419, 420, 22, 69, 102, 114, 188, 256, 421, 422, 423, 424, 209, 210, 211, 212, 65, 425, 426, 427, 428, 381, 382, 383, 384, 106, 107, 108, 109, 668, 669, 670, 671, 672, 673, 674, 675, 676, 677, 678, 679, 680] (by decide +kernel) (by decide +kernel)
set_option maxRecDepth 20000 in
theorem gL_law_X3_count : GoodIn wsL_law (wsV RL 123 RX3 yX3_count wsX3_count) := goodIn_app (goodIn_of _ (by decide +kernel)) ggL_law_X3_count
set_option maxRecDepth 20000 in
theorem ggL_law_L_pass : GoodIn wsL_law wsL_pass := goodIn_ca (goodIn_r _ [431, 74, 432, 433, 434, 2, 435, 20, 16, 81, 82, 83, 84, 85, 436, 437, 438, 19, 439, 440, 441, 442, 443, 444, 445, 336, 53, 55, 446, 447, 448, 449, 450, 52, 45, 56, 54, 51, 451, 452, 453, 454, 455, 456, 48, 457, 333, 334, 335, 458, 459, 460, 15, 461, 34, 38, 29, 96, 462, 463, 464, 465, 33, 30, 31, 466, 467, 468, 469, 470, 471, 120, 117, 121, 46, 44, 472, 49, 57, 248, 249, 250, 251, 473, 474, 475, 476, 412, 477, 478, 479, 480, 481, 482, 483, 484, 485, 486, 487, 488, 489, 490, 50, 491, 492, 493, 494, 27, 153, 116, 118, 664, 665, 666, 667, 698, 699, 700, 701, 702, 703, 704, 705, 706, 707, 708, 709, 710, 711, 712, 713, 681, 682, 683, 684, 685, 686, 687, 688, 689, 690, 691, 692, 693, 694, 695, 696, 697] (by decide +kernel) (by decide +kernel)) (goodIn_sub (fun _ h => List.mem_append_left _ (List.mem_append_left _ (List.mem_append_right _ h))) (by decide +kernel))
set_option maxRecDepth 20000 in
theorem gL_law_L_pass : GoodIn wsL_law (va_wsS RL 124 yL_pass wsL_pass) := goodIn_app (goodIn_of _ (by decide +kernel)) ggL_law_L_pass
set_option maxRecDepth 20000 in
theorem ggL_law_X3_pass : GoodIn wsL_law wsX3_pass := goodIn_r _ [498, 101, 103, 104, 5, 105, 106, 107, 108, 109, 421, 422, 423, 424, 188, 209, 210, 211, 212, 65, 499, 500, 501, 502, 503, 504, 505, 506, 69, 507, 508, 509, 510, 256, 511, 512, 513, 514, 119, 120, 117, 121, 281, 282, 283, 284, 66, 515, 516, 517, 518, 67, 345, 346, 347, 348, 519, 520, 521, 522, 122, 123, 124, 125, 63, 314, 315, 316, 317, 64, 285, 286, 287, 288, 213, 214, 215, 216, 523, 524, 525, 526, 68, 527, 528, 529, 530, 62, 115, 116, 118, 668, 669, 670, 671, 672, 673, 674, 675, 676, 677, 678, 679, 680] (by decide +kernel) (by decide +kernel)
set_option maxRecDepth 20000 in
theorem gL_law_X3_pass : GoodIn wsL_law (wsV RL 126 RX3 yX3_pass wsX3_pass) := goodIn_app (goodIn_of _ (by decide +kernel)) ggL_law_X3_pass
set_option maxRecDepth 20000 in
theorem ggL_law_L_dawn : GoodIn wsL_law wsL_dawn := goodIn_ca (goodIn_r _ [533, 75, 534, 535, 536, 2, 537, 89, 90, 20, 392, 16, 395, 396, 397, 19, 398, 399, 44, 538, 539, 540, 541, 440, 542, 412, 48, 336, 482, 483, 484, 485, 472, 543, 244, 245, 246, 51, 247, 56, 248, 249, 250, 251, 53, 55, 664, 665, 666, 667, 698, 699, 700, 701, 702, 703, 704, 705, 706, 707, 708, 709, 710, 711, 712, 713, 681, 682, 683, 684, 685, 686, 687, 688, 689, 690, 691, 692, 693, 694, 695, 696, 697] (by decide +kernel) (by decide +kernel)) (goodIn_sub (fun _ h => List.mem_append_left _ (List.mem_append_right _ h)) (by decide +kernel))
set_option maxRecDepth 20000 in
theorem gL_law_L_dawn : GoodIn wsL_law (va_wsS RL 127 yL_dawn wsL_dawn) := goodIn_app (goodIn_of _ (by decide +kernel)) ggL_law_L_dawn
set_option maxRecDepth 20000 in
theorem ggL_law_X3_dawn : GoodIn wsL_law wsX3_dawn := goodIn_r _ [547, 101, 188, 256, 69, 503, 504, 505, 5, 506, 106, 107, 108, 109, 421, 422, 423, 424, 209, 210, 211, 212, 65, 213, 214, 215, 216, 281, 282, 283, 284, 66, 285, 286, 287, 288, 668, 669, 670, 671, 672, 673, 674, 675, 676, 677, 678, 679, 680] (by decide +kernel) (by decide +kernel)
set_option maxRecDepth 20000 in
theorem gL_law_X3_dawn : GoodIn wsL_law (wsV RL 130 RX3 yX3_dawn wsX3_dawn) := goodIn_app (goodIn_of _ (by decide +kernel)) ggL_law_X3_dawn
set_option maxRecDepth 20000 in
theorem ggL_law_L_comes : GoodIn wsL_law wsL_comes := goodIn_ca (goodIn_r _ [550, 133, 551, 552, 553, 2, 554, 16, 178, 21, 20, 392, 330, 139, 140, 141, 142, 143, 555, 556, 557, 19, 558, 440, 542, 481, 44, 559, 164, 165, 166, 45, 46, 48, 49, 50, 51, 52, 53, 54, 55, 56, 57, 436, 437, 438, 439, 441, 442, 443, 444, 445, 336, 446, 447, 448, 449, 450, 451, 452, 453, 454, 455, 456, 457, 333, 334, 335, 458, 459, 460, 15, 461, 34, 38, 29, 96, 462, 463, 464, 465, 33, 30, 31, 466, 467, 468, 469, 470, 471, 120, 117, 121, 472, 248, 249, 250, 251, 473, 474, 475, 476, 412, 477, 478, 479, 480, 482, 483, 484, 485, 486, 487, 488, 489, 490, 491, 492, 493, 494, 27, 153, 116, 118, 664, 665, 666, 667, 681, 682, 683, 684, 685, 686, 687, 688, 689, 690, 691, 692, 693, 694, 695, 696, 697, 698, 699, 700, 701, 702, 703, 704, 705, 706, 707, 708, 709, 710, 711, 712, 713] (by decide +kernel) (by decide +kernel)) (goodIn_sub (fun _ h => List.mem_append_right _ h) (by decide +kernel))
set_option maxRecDepth 20000 in
theorem gL_law_L_comes : GoodIn wsL_law (va_wsS RL 131 yL_comes wsL_comes) := goodIn_app (goodIn_of _ (by decide +kernel)) ggL_law_L_comes
set_option maxRecDepth 20000 in
theorem ggL_law_X3_comes : GoodIn wsL_law wsX3_comes := goodIn_r _ [563, 101, 205, 206, 207, 5, 208, 188, 103, 104, 105, 106, 107, 108, 109, 564, 565, 566, 567, 568, 65, 569, 570, 571, 572, 573, 66, 69, 503, 504, 505, 506, 507, 508, 509, 510, 256, 511, 512, 513, 514, 119, 120, 117, 121, 281, 282, 283, 284, 515, 516, 517, 518, 67, 209, 210, 211, 212, 345, 346, 347, 348, 519, 520, 521, 522, 122, 123, 124, 125, 63, 314, 315, 316, 317, 64, 285, 286, 287, 288, 213, 214, 215, 216, 523, 524, 525, 526, 68, 527, 528, 529, 530, 62, 115, 116, 118, 574, 575, 576, 577, 163, 164, 165, 166, 668, 669, 670, 671, 672, 673, 674, 675, 676, 677, 678, 679, 680] (by decide +kernel) (by decide +kernel)
set_option maxRecDepth 20000 in
theorem gL_law_X3_comes : GoodIn wsL_law (wsV RL 133 RX3 yX3_comes wsX3_comes) := goodIn_app (goodIn_of _ (by decide +kernel)) ggL_law_X3_comes
set_option maxRecDepth 20000 in
theorem ggL_law_X2_darkest : GoodIn wsL_law wsX2_darkest := goodIn_r _ [581, 21, 20, 392, 16, 582, 583, 584, 2, 585, 23, 555, 556, 557, 19, 558, 440, 542, 481, 44, 559, 164, 165, 166, 45, 46, 48, 49, 50, 51, 52, 53, 54, 55, 56, 57, 436, 437, 438, 439, 441, 442, 443, 444, 445, 336, 446, 447, 448, 449, 450, 451, 452, 453, 454, 455, 456, 457, 333, 334, 335, 458, 459, 460, 15, 461, 34, 38, 29, 96, 462, 463, 464, 465, 33, 30, 31, 466, 467, 468, 469, 470, 471, 120, 117, 121, 472, 248, 249, 250, 251, 473, 474, 475, 476, 412, 477, 478, 479, 480, 482, 483, 484, 485, 486, 487, 488, 489, 490, 491, 492, 493, 494, 27, 153, 116, 118, 586, 587, 588, 589, 138, 590, 405, 406, 407, 591, 592, 593, 594, 664, 665, 666, 667, 698, 699, 700, 701, 702, 703, 704, 705, 706, 707, 708, 709, 710, 711, 712, 713, 681, 682, 683, 684, 685, 686, 687, 688, 689, 690, 691, 692, 693, 694, 695, 696, 697] (by decide +kernel) (by decide +kernel)
set_option maxRecDepth 20000 in
theorem gL_law_X2_darkest : GoodIn wsL_law (wsV RL 134 RX2 yX2_darkest wsX2_darkest) := goodIn_app (goodIn_of _ (by decide +kernel)) ggL_law_X2_darkest
set_option maxRecDepth 20000 in
theorem ggL_law_X3_darkest : GoodIn wsL_law wsX3_darkest := goodIn_r _ [598, 101, 22, 114, 564, 565, 566, 5, 567, 568, 65, 569, 570, 571, 572, 573, 66, 69, 503, 504, 505, 506, 507, 508, 509, 510, 256, 188, 511, 512, 513, 514, 119, 120, 117, 121, 281, 282, 283, 284, 515, 516, 517, 518, 67, 209, 210, 211, 212, 345, 346, 347, 348, 519, 520, 521, 522, 122, 123, 124, 125, 63, 314, 315, 316, 317, 64, 285, 286, 287, 288, 213, 214, 215, 216, 523, 524, 525, 526, 68, 527, 528, 529, 530, 62, 115, 116, 118, 381, 382, 383, 384, 574, 575, 576, 577, 163, 164, 165, 166, 668, 669, 670, 671, 672, 673, 674, 675, 676, 677, 678, 679, 680] (by decide +kernel) (by decide +kernel)
set_option maxRecDepth 20000 in
theorem gL_law_X3_darkest : GoodIn wsL_law (wsV RL 137 RX3 yX3_darkest wsX3_darkest) := goodIn_app (goodIn_of _ (by decide +kernel)) ggL_law_X3_darkest
set_option maxRecDepth 20000 in
theorem ggL_law_L_needs : GoodIn wsL_law wsL_needs := goodIn_ca (goodIn_r _ [601, 133, 602, 603, 604, 2, 605, 16, 178, 224, 606, 116, 117, 118, 139, 140, 141, 142, 143, 607, 492, 493, 15, 494, 33, 27, 30, 31, 153, 664, 665, 666, 667, 681, 682, 683, 684, 685, 686, 687, 688, 689, 690, 691, 692, 693, 694, 695, 696, 697] (by decide +kernel) (by decide +kernel)) (goodIn_sub (fun _ h => List.mem_append_right _ h) (by decide +kernel))
set_option maxRecDepth 20000 in
theorem gL_law_L_needs : GoodIn wsL_law (va_wsS RL 138 yL_needs wsL_needs) := goodIn_app (goodIn_of _ (by decide +kernel)) ggL_law_L_needs
set_option maxRecDepth 20000 in
theorem ggL_law_X3_needs : GoodIn wsL_law wsX3_needs := goodIn_r _ [611, 101, 68, 115, 116, 117, 118, 205, 206, 207, 5, 208, 188, 103, 104, 105, 106, 107, 108, 109, 527, 528, 529, 530, 62, 209, 210, 211, 212, 65, 122, 123, 124, 125, 63, 668, 669, 670, 671, 672, 673, 674, 675, 676, 677, 678, 679, 680] (by decide +kernel) (by decide +kernel)
set_option maxRecDepth 20000 in
theorem gL_law_X3_needs : GoodIn wsL_law (wsV RL 140 RX3 yX3_needs wsX3_needs) := goodIn_app (goodIn_of _ (by decide +kernel)) ggL_law_X3_needs
set_option maxRecDepth 20000 in
theorem ggL_law_L_foresee : GoodIn wsL_law wsL_foresee := goodIn_ca (goodIn_ca (goodIn_r _ [614, 74, 133, 615, 616, 617, 2, 618, 21, 20, 16, 394, 81, 82, 83, 84, 85, 139, 140, 141, 142, 143, 555, 556, 557, 19, 558, 440, 542, 481, 44, 559, 164, 165, 166, 45, 46, 48, 49, 50, 51, 52, 53, 54, 55, 56, 57, 436, 437, 438, 439, 441, 442, 443, 444, 445, 336, 446, 447, 448, 449, 450, 451, 452, 453, 454, 455, 456, 457, 333, 334, 335, 458, 459, 460, 15, 461, 34, 38, 29, 96, 462, 463, 464, 465, 33, 30, 31, 466, 467, 468, 469, 470, 471, 120, 117, 121, 472, 248, 249, 250, 251, 473, 474, 475, 476, 412, 477, 478, 479, 480, 482, 483, 484, 485, 486, 487, 488, 489, 490, 491, 492, 493, 494, 27, 153, 116, 118, 395, 396, 397, 398, 399, 400, 401, 402, 403, 404, 405, 406, 407, 664, 665, 666, 667, 698, 699, 700, 701, 702, 703, 704, 705, 706, 707, 708, 709, 710, 711, 712, 713, 681, 682, 683, 684, 685, 686, 687, 688, 689, 690, 691, 692, 693, 694, 695, 696, 697] (by decide +kernel) (by decide +kernel)) (goodIn_sub (fun _ h => List.mem_append_left _ (List.mem_append_left _ (List.mem_append_right _ h))) (by decide +kernel))) (goodIn_sub (fun _ h => List.mem_append_right _ h) (by decide +kernel))
set_option maxRecDepth 20000 in
theorem gL_law_L_foresee : GoodIn wsL_law (va_wsS RL 141 yL_foresee wsL_foresee) := goodIn_app (goodIn_of _ (by decide +kernel)) ggL_law_L_foresee
set_option maxRecDepth 20000 in
theorem ggL_law_X3_foresee : GoodIn wsL_law wsX3_foresee := goodIn_r _ [622, 101, 69, 103, 104, 5, 105, 106, 107, 108, 109, 564, 565, 566, 567, 568, 65, 569, 570, 571, 572, 573, 66, 499, 500, 501, 502, 503, 504, 505, 506, 507, 508, 509, 510, 256, 188, 511, 512, 513, 514, 119, 120, 117, 121, 281, 282, 283, 284, 515, 516, 517, 518, 67, 209, 210, 211, 212, 345, 346, 347, 348, 519, 520, 521, 522, 122, 123, 124, 125, 63, 314, 315, 316, 317, 64, 285, 286, 287, 288, 213, 214, 215, 216, 523, 524, 525, 526, 68, 527, 528, 529, 530, 62, 115, 116, 118, 421, 422, 423, 424, 425, 426, 427, 428, 114, 381, 382, 383, 384, 574, 575, 576, 577, 163, 164, 165, 166, 668, 669, 670, 671, 672, 673, 674, 675, 676, 677, 678, 679, 680] (by decide +kernel) (by decide +kernel)
set_option maxRecDepth 20000 in
theorem gL_law_X3_foresee : GoodIn wsL_law (wsV RL 143 RX3 yX3_foresee wsX3_foresee) := goodIn_app (goodIn_of _ (by decide +kernel)) ggL_law_X3_foresee
set_option maxRecDepth 20000 in
theorem ggL_law_X2_mean : GoodIn wsL_law wsX2_mean := goodIn_r _ [626, 16, 178, 20, 408, 409, 410, 19, 411, 412, 45, 664, 665, 666, 667, 681, 682, 683, 684, 685, 686, 687, 688, 689, 690, 691, 692, 693, 694, 695, 696, 697, 698, 699, 700, 701, 702, 703, 704, 705, 706, 707, 708, 709, 710, 711, 712, 713] (by decide +kernel) (by decide +kernel)
set_option maxRecDepth 20000 in
theorem gL_law_X2_mean : GoodIn wsL_law (wsV RL 144 RX2 yX2_mean wsX2_mean) := goodIn_app (goodIn_of _ (by decide +kernel)) ggL_law_X2_mean
set_option maxRecDepth 20000 in
theorem ggL_law_X3_mean : GoodIn wsL_law wsX3_mean := goodIn_r _ [630, 101, 188, 421, 422, 423, 5, 424, 209, 210, 211, 212, 65, 668, 669, 670, 671, 672, 673, 674, 675, 676, 677, 678, 679, 680] (by decide +kernel) (by decide +kernel)
set_option maxRecDepth 20000 in
theorem gL_law_X3_mean : GoodIn wsL_law (wsV RL 148 RX3 yX3_mean wsX3_mean) := goodIn_app (goodIn_of _ (by decide +kernel)) ggL_law_X3_mean
set_option maxRecDepth 20000 in
theorem ggL_law_X2_digest : GoodIn wsL_law wsX2_digest := goodIn_ca (goodIn_r _ [634, 635, 636, 16, 224, 637, 389, 390, 2, 391, 20, 392, 393, 80, 138, 178, 236, 394, 139, 140, 141, 142, 143, 395, 396, 397, 19, 398, 399, 44, 400, 401, 402, 403, 404, 405, 406, 407, 408, 409, 410, 411, 412, 45, 638, 639, 640, 641, 642, 643, 644, 645, 646, 373, 374, 375, 376, 647, 648, 649, 650, 651, 322, 323, 324, 325, 326, 200, 327, 328, 329, 330, 331, 332, 333, 334, 335, 336, 53, 652, 653, 654, 655, 264, 656, 657, 353, 354, 355, 356, 357, 237, 358, 359, 360, 664, 665, 666, 667, 681, 682, 683, 684, 685, 686, 687, 688, 689, 690, 691, 692, 693, 694, 695, 696, 697, 698, 699, 700, 701, 702, 703, 704, 705, 706, 707, 708, 709, 710, 711, 712, 713] (by decide +kernel) (by decide +kernel)) (goodIn_sub (fun _ h => List.mem_append_right _ h) (by decide +kernel))
set_option maxRecDepth 20000 in
theorem gL_law_X2_digest : GoodIn wsL_law (wsV RL 149 RX2 yX2_digest wsX2_digest) := goodIn_app (goodIn_of _ (by decide +kernel)) ggL_law_X2_digest
set_option maxRecDepth 20000 in
theorem ggL_law_X3_digest : GoodIn wsL_law wsX3_digest := goodIn_r _ [661, 101, 662, 663, 102, 62, 114, 188, 256, 67, 68, 417, 418, 419, 5, 420, 22, 69, 421, 422, 423, 424, 209, 210, 211, 212, 65, 425, 426, 427, 428, 381, 382, 383, 384, 122, 123, 124, 125, 63, 341, 342, 343, 344, 345, 346, 347, 348, 281, 282, 283, 284, 66, 365, 366, 367, 368, 668, 669, 670, 671, 672, 673, 674, 675, 676, 677, 678, 679, 680] (by decide +kernel) (by decide +kernel)
set_option maxRecDepth 20000 in
theorem gL_law_X3_digest : GoodIn wsL_law (wsV RL 153 RX3 yX3_digest wsX3_digest) := goodIn_app (goodIn_of _ (by decide +kernel)) ggL_law_X3_digest
