theorem dL_below_0 : decode cL_below 0 = .ok (.iload_n 0, 1) := by decide +kernel
theorem dL_below_1 : decode cL_below 1 = .ok (.ldc 7, 2) := by decide +kernel
theorem dL_below_3 : decode cL_below 3 = .ok (.iand, 1) := by decide +kernel
theorem dL_below_4 : decode cL_below 4 = .ok (.iload_n 1, 1) := by decide +kernel
theorem dL_below_5 : decode cL_below 5 = .ok (.irem, 1) := by decide +kernel
theorem dL_below_6 : decode cL_below 6 = .ok (.ireturn, 1) := by decide +kernel
theorem dL_cell_0 : decode cL_cell 0 = .ok (.iload_n 1, 1) := by decide +kernel
theorem dL_cell_1 : decode cL_cell 1 = .ok (.aload_n 0, 1) := by decide +kernel
theorem dL_cell_2 : decode cL_cell 2 = .ok (.arraylength, 1) := by decide +kernel
theorem dL_cell_3 : decode cL_cell 3 = .ok (.if_icmp .ge 9, 3) := by decide +kernel
theorem dL_cell_6 : decode cL_cell 6 = .ok (.aload_n 0, 1) := by decide +kernel
theorem dL_cell_7 : decode cL_cell 7 = .ok (.iload_n 1, 1) := by decide +kernel
theorem dL_cell_8 : decode cL_cell 8 = .ok (.iaload, 1) := by decide +kernel
theorem dL_cell_9 : decode cL_cell 9 = .ok (.goto 9, 3) := by decide +kernel
theorem dL_cell_12 : decode cL_cell 12 = .ok (.ldc 8, 2) := by decide +kernel
theorem dL_cell_14 : decode cL_cell 14 = .ok (.iload_n 1, 1) := by decide +kernel
theorem dL_cell_15 : decode cL_cell 15 = .ok (.iconst 3, 1) := by decide +kernel
theorem dL_cell_16 : decode cL_cell 16 = .ok (.iadd, 1) := by decide +kernel
theorem dL_cell_17 : decode cL_cell 17 = .ok (.imul, 1) := by decide +kernel
theorem dL_cell_18 : decode cL_cell 18 = .ok (.ireturn, 1) := by decide +kernel
set_option maxRecDepth 20000 in
theorem ggL_build_X3_init : GoodIn wsL_build wsX3_init := goodIn_r _ [16, 17, 18, 19, 10, 20, 21, 22, 23, 24, 25, 26, 27, 28, 176, 177, 178, 179, 180, 181, 182, 183, 184, 185] (by decide +kernel) (by decide +kernel)
set_option maxRecDepth 20000 in
theorem gL_build_X3_init_n11 : GoodIn wsL_build (wsX3_init) := ggL_build_X3_init
set_option maxRecDepth 20000 in
theorem ggL_build_L_cell : GoodIn wsL_build wsL_cell := goodIn_r _ [32, 33] (by decide +kernel) (by decide +kernel)
set_option maxRecDepth 20000 in
theorem gL_build_L_cell : GoodIn wsL_build (va_wsS RL 12 yL_cell wsL_cell) := goodIn_app (goodIn_of _ (by decide +kernel)) ggL_build_L_cell
set_option maxRecDepth 20000 in
theorem ggL_build_L_below : GoodIn wsL_build wsL_below := goodIn_r _ [36, 37] (by decide +kernel) (by decide +kernel)
set_option maxRecDepth 20000 in
theorem gL_build_L_below : GoodIn wsL_build (va_wsS RL 18 yL_below wsL_below) := goodIn_app (goodIn_of _ (by decide +kernel)) ggL_build_L_below
set_option maxRecDepth 20000 in
theorem ggL_build_X2_corner : GoodIn wsL_build wsX2_corner := goodIn_ca (goodIn_ca (goodIn_r _ [42, 43, 44, 45, 46, 41, 47, 48, 49, 50, 51, 52, 53, 54, 55, 56, 57, 58, 59, 60, 61, 62, 63, 186, 187, 188, 189, 190, 191, 192, 193, 194, 195, 196, 197, 198, 199, 200, 201, 202, 203, 204, 205, 206] (by decide +kernel) (by decide +kernel)) (goodIn_sub (fun _ h => List.mem_cons_of_mem _ (List.mem_append_left _ (List.mem_append_left _ (List.mem_append_right _ h)))) (by decide +kernel))) (goodIn_sub (fun _ h => List.mem_cons_of_mem _ (List.mem_append_left _ (List.mem_append_right _ h))) (by decide +kernel))
set_option maxRecDepth 20000 in
theorem gL_build_X2_corner : GoodIn wsL_build (wsV RL 22 RX2 yX2_corner wsX2_corner) := goodIn_app (goodIn_of _ (by decide +kernel)) ggL_build_X2_corner
set_option maxRecDepth 20000 in
theorem ggL_build_X3_more : GoodIn wsL_build wsX3_more := goodIn_r _ [66, 10] (by decide +kernel) (by decide +kernel)
set_option maxRecDepth 20000 in
theorem gL_build_X3_more : GoodIn wsL_build (va_wsS RL 32 yX3_more wsX3_more) := goodIn_app (goodIn_of _ (by decide +kernel)) ggL_build_X3_more
set_option maxRecDepth 20000 in
theorem ggL_build_X2_street : GoodIn wsL_build wsX2_street := goodIn_ca (goodIn_ca (goodIn_ca (goodIn_r _ [70, 48, 49, 43, 44, 71, 72, 73, 41, 74, 75, 76, 45, 46, 47, 50, 51, 52, 53, 54, 77, 78, 79, 58, 80, 81, 82, 83, 84, 85, 86, 87, 88, 61, 89, 90, 7, 91, 92, 93, 94, 95, 60, 62, 96, 6, 8, 186, 187, 188, 189, 190, 191, 192, 193, 194, 195, 196, 197, 198, 199, 200, 201, 202, 203, 204, 205, 206] (by decide +kernel) (by decide +kernel)) (goodIn_sub (fun _ h => List.mem_cons_of_mem _ (List.mem_append_left _ (List.mem_append_left _ (List.mem_append_right _ h)))) (by decide +kernel))) (goodIn_sub (fun _ h => List.mem_cons_of_mem _ (List.mem_append_right _ h)) (by decide +kernel))) (goodIn_sub (fun _ h => List.mem_cons_of_mem _ (List.mem_append_left _ (List.mem_append_right _ h))) (by decide +kernel))
set_option maxRecDepth 20000 in
theorem gL_build_X2_street : GoodIn wsL_build (wsV RL 41 RX2 yX2_street wsX2_street) := goodIn_app (goodIn_of _ (by decide +kernel)) ggL_build_X2_street
set_option maxRecDepth 20000 in
theorem ggL_build_X3_more_ : GoodIn wsL_build wsX3_more_ := goodIn_r _ [99, 21] (by decide +kernel) (by decide +kernel)
set_option maxRecDepth 20000 in
theorem gL_build_X3_more_ : GoodIn wsL_build (va_wsS RL 49 yX3_more_ wsX3_more_) := goodIn_app (goodIn_of _ (by decide +kernel)) ggL_build_X3_more_
set_option maxRecDepth 20000 in
theorem ggL_build_X3_measure : GoodIn wsL_build wsX3_measure := goodIn_r _ [103, 20, 28, 22, 104, 105, 106, 3, 107, 176, 177, 178, 179, 180, 181, 182, 183, 184, 185] (by decide +kernel) (by decide +kernel)
set_option maxRecDepth 20000 in
theorem gL_build_X3_measure : GoodIn wsL_build (wsV RL 52 RX3 yX3_measure wsX3_measure) := goodIn_app (goodIn_of _ (by decide +kernel)) ggL_build_X3_measure
set_option maxRecDepth 20000 in
theorem ggL_build_X2_lamp : GoodIn wsL_build wsX2_lamp := goodIn_ca (goodIn_ca (goodIn_ca (goodIn_r _ [111, 43, 71, 112, 72, 73, 41, 74, 75, 76, 45, 46, 47, 48, 49, 50, 51, 52, 53, 54, 113, 114, 115, 58, 116, 117, 118, 119, 186, 187, 188, 189, 190, 191, 192, 193, 194, 195, 196, 197, 198, 199, 200, 201, 202, 203, 204, 205, 206] (by decide +kernel) (by decide +kernel)) (goodIn_sub (fun _ h => List.mem_cons_of_mem _ (List.mem_append_right _ h)) (by decide +kernel))) (goodIn_sub (fun _ h => List.mem_cons_of_mem _ (List.mem_append_left _ (List.mem_append_left _ (List.mem_append_right _ h)))) (by decide +kernel))) (goodIn_sub (fun _ h => List.mem_cons_of_mem _ (List.mem_append_left _ (List.mem_append_right _ h))) (by decide +kernel))
set_option maxRecDepth 20000 in
theorem gL_build_X2_lamp : GoodIn wsL_build (wsV RL 55 RX2 yX2_lamp wsX2_lamp) := goodIn_app (goodIn_of _ (by decide +kernel)) ggL_build_X2_lamp
set_option maxRecDepth 20000 in
theorem ggL_build_X2_lid : GoodIn wsL_build wsX2_lid := goodIn_ca (goodIn_ca (goodIn_r _ [123, 43, 112, 124, 72, 73, 41, 74, 75, 76, 45, 46, 47, 48, 49, 186, 187, 188, 189, 190, 191, 192, 193, 194, 195, 196, 197, 198, 199, 200, 201, 202, 203, 204, 205, 206] (by decide +kernel) (by decide +kernel)) (goodIn_sub (fun _ h => List.mem_cons_of_mem _ (List.mem_append_right _ h)) (by decide +kernel))) (goodIn_sub (fun _ h => List.mem_cons_of_mem _ (List.mem_append_left _ (List.mem_append_left _ (List.mem_append_right _ h)))) (by decide +kernel))
set_option maxRecDepth 20000 in
theorem gL_build_X2_lid : GoodIn wsL_build (wsV RL 61 RX2 yX2_lid wsX2_lid) := goodIn_app (goodIn_of _ (by decide +kernel)) ggL_build_X2_lid
set_option maxRecDepth 20000 in
theorem ggL_build_X2_setWind : GoodIn wsL_build wsX2_setWind := goodIn_ca (goodIn_ca (goodIn_r _ [128, 43, 129, 72, 73, 41, 74, 75, 76, 45, 46, 47, 48, 49, 186, 187, 188, 189, 190, 191, 192, 193, 194, 195, 196, 197, 198, 199, 200, 201, 202, 203, 204, 205, 206] (by decide +kernel) (by decide +kernel)) (goodIn_sub (fun _ h => List.mem_cons_of_mem _ (List.mem_append_right _ h)) (by decide +kernel))) (goodIn_sub (fun _ h => List.mem_cons_of_mem _ (List.mem_append_left _ (List.mem_append_left _ (List.mem_append_right _ h)))) (by decide +kernel))
set_option maxRecDepth 20000 in
theorem gL_build_X2_setWind : GoodIn wsL_build (wsV RL 67 RX2 yX2_setWind wsX2_setWind) := goodIn_app (goodIn_of _ (by decide +kernel)) ggL_build_X2_setWind
set_option maxRecDepth 20000 in
theorem ggL_build_X2_hire : GoodIn wsL_build wsX2_hire := goodIn_ca (goodIn_ca (goodIn_ca (goodIn_r _ [133, 43, 44, 134, 135, 136, 72, 73, 41, 74, 75, 76, 45, 46, 47, 48, 49, 50, 51, 52, 53, 54, 137, 138, 139, 58, 140, 141, 142, 143, 144, 145, 146, 147, 148, 149, 150, 151, 152, 153, 154, 155, 156, 157, 186, 187, 188, 189, 190, 191, 192, 193, 194, 195, 196, 197, 198, 199, 200, 201, 202, 203, 204, 205, 206, 207, 208, 209, 210, 211, 212, 213, 214, 215, 216, 217, 218, 219, 220, 221, 222] (by decide +kernel) (by decide +kernel)) (goodIn_sub (fun _ h => List.mem_cons_of_mem _ (List.mem_append_right _ h)) (by decide +kernel))) (goodIn_sub (fun _ h => List.mem_cons_of_mem _ (List.mem_append_left _ (List.mem_append_left _ (List.mem_append_right _ h)))) (by decide +kernel))) (goodIn_sub (fun _ h => List.mem_cons_of_mem _ (List.mem_append_left _ (List.mem_append_right _ h))) (by decide +kernel))
set_option maxRecDepth 20000 in
theorem gL_build_X2_hire : GoodIn wsL_build (wsV RL 70 RX2 yX2_hire wsX2_hire) := goodIn_app (goodIn_of _ (by decide +kernel)) ggL_build_X2_hire
set_option maxRecDepth 20000 in
theorem ggL_build_L_adds : GoodIn wsL_build wsL_adds := goodIn_ca (goodIn_ca (goodIn_r _ [160, 14, 64, 65, 3, 66, 10, 161, 162, 163, 41, 164, 53, 54, 43, 134, 112, 165, 72, 73, 74, 75, 76, 166, 167, 168, 58, 169, 170, 171, 50, 51, 52, 172, 173, 174, 175, 176, 177, 178, 179, 180, 181, 182, 183, 184, 185, 186, 187, 188, 189, 190, 191, 192, 193, 194, 195, 196, 197, 198, 199, 200, 201, 202, 203, 204, 205, 206] (by decide +kernel) (by decide +kernel)) (goodIn_sub (fun _ h => List.mem_cons_of_mem _ (List.mem_append_left _ (List.mem_append_right _ h))) (by decide +kernel))) (goodIn_sub (fun _ h => List.mem_cons_of_mem _ (List.mem_append_right _ h)) (by decide +kernel))
set_option maxRecDepth 20000 in
theorem gL_build_L_adds : GoodIn wsL_build (va_wsS RL 79 yL_adds wsL_adds) := goodIn_app (goodIn_of _ (by decide +kernel)) ggL_build_L_adds
set_option maxRecDepth 20000 in
theorem ggL_adds_X3_more : GoodIn wsL_adds wsX3_more := goodIn_r _ [5, 6] (by decide +kernel) (by decide +kernel)
set_option maxRecDepth 20000 in
theorem gL_adds_X3_more : GoodIn wsL_adds (va_wsS RL 32 yX3_more wsX3_more) := goodIn_app (goodIn_of _ (by decide +kernel)) ggL_adds_X3_more
set_option maxRecDepth 20000 in
theorem ggL_adds_X2_round : GoodIn wsL_adds wsX2_round := goodIn_ca (goodIn_ca (goodIn_r _ [11, 12, 13, 14, 15, 16, 17, 18, 19, 10, 20, 21, 22, 23, 24, 25, 26, 27, 28, 29, 30, 31, 32, 33, 34, 35, 36, 47, 48, 49, 50, 51, 52, 53, 54, 55, 56, 57, 58, 59, 60, 61, 62, 63, 64, 65, 66, 67] (by decide +kernel) (by decide +kernel)) (goodIn_sub (fun _ h => List.mem_cons_of_mem _ (List.mem_append_left _ (List.mem_append_right _ h))) (by decide +kernel))) (goodIn_sub (fun _ h => List.mem_cons_of_mem _ (List.mem_append_right _ h)) (by decide +kernel))
set_option maxRecDepth 20000 in
theorem gL_adds_X2_round : GoodIn wsL_adds (wsV RL 83 RX2 yX2_round wsX2_round) := goodIn_app (goodIn_of _ (by decide +kernel)) ggL_adds_X2_round
theorem dL_adds_0 : decode cL_adds 0 = .ok (.aload_n 1, 1) := by decide +kernel
theorem dL_adds_1 : decode cL_adds 1 = .ok (.getfield 76, 3) := by decide +kernel
theorem dL_adds_4 : decode cL_adds 4 = .ok (.iload_n 2, 1) := by decide +kernel
theorem dL_adds_5 : decode cL_adds 5 = .ok (.aaload, 1) := by decide +kernel
theorem dL_adds_6 : decode cL_adds 6 = .ok (.astore 4, 2) := by decide +kernel
theorem dL_adds_8 : decode cL_adds 8 = .ok (.aload 4, 2) := by decide +kernel
theorem dL_adds_10 : decode cL_adds 10 = .ok (.arraylength, 1) := by decide +kernel
theorem dL_adds_11 : decode cL_adds 11 = .ok (.istore 5, 2) := by decide +kernel
theorem dL_adds_13 : decode cL_adds 13 = .ok (.iconst 0, 1) := by decide +kernel
theorem dL_adds_14 : decode cL_adds 14 = .ok (.istore 6, 2) := by decide +kernel
theorem dL_adds_16 : decode cL_adds 16 = .ok (.iload 6, 2) := by decide +kernel
theorem dL_adds_18 : decode cL_adds 18 = .ok (.iload 5, 2) := by decide +kernel
theorem dL_adds_20 : decode cL_adds 20 = .ok (.if_icmp .ge 24, 3) := by decide +kernel
theorem dL_adds_23 : decode cL_adds 23 = .ok (.aload 4, 2) := by decide +kernel
theorem dL_adds_25 : decode cL_adds 25 = .ok (.iload 6, 2) := by decide +kernel
theorem dL_adds_27 : decode cL_adds 27 = .ok (.iaload, 1) := by decide +kernel
theorem dL_adds_28 : decode cL_adds 28 = .ok (.istore 7, 2) := by decide +kernel
theorem dL_adds_30 : decode cL_adds 30 = .ok (.iload 7, 2) := by decide +kernel
theorem dL_adds_32 : decode cL_adds 32 = .ok (.iload_n 3, 1) := by decide +kernel
theorem dL_adds_33 : decode cL_adds 33 = .ok (.if_icmp .ne 5, 3) := by decide +kernel
theorem dL_adds_36 : decode cL_adds 36 = .ok (.iconst 1, 1) := by decide +kernel
theorem dL_adds_37 : decode cL_adds 37 = .ok (.ireturn, 1) := by decide +kernel
theorem dL_adds_38 : decode cL_adds 38 = .ok (.iinc 6 1, 3) := by decide +kernel
theorem dL_adds_41 : decode cL_adds 41 = .ok (.goto (-25), 3) := by decide +kernel
theorem dL_adds_44 : decode cL_adds 44 = .ok (.aload_n 1, 1) := by decide +kernel
theorem dL_adds_45 : decode cL_adds 45 = .ok (.getfield 76, 3) := by decide +kernel
theorem dL_adds_48 : decode cL_adds 48 = .ok (.iload_n 2, 1) := by decide +kernel
theorem dL_adds_49 : decode cL_adds 49 = .ok (.aaload, 1) := by decide +kernel
theorem dL_adds_50 : decode cL_adds 50 = .ok (.arraylength, 1) := by decide +kernel
theorem dL_adds_51 : decode cL_adds 51 = .ok (.bipush 10, 2) := by decide +kernel
theorem dL_adds_53 : decode cL_adds 53 = .ok (.if_icmp .ne 5, 3) := by decide +kernel
theorem dL_adds_56 : decode cL_adds 56 = .ok (.iconst 1, 1) := by decide +kernel
theorem dL_adds_57 : decode cL_adds 57 = .ok (.ireturn, 1) := by decide +kernel
theorem dL_adds_58 : decode cL_adds 58 = .ok (.aload_n 1, 1) := by decide +kernel
theorem dL_adds_59 : decode cL_adds 59 = .ok (.getfield 76, 3) := by decide +kernel
theorem dL_adds_62 : decode cL_adds 62 = .ok (.iload_n 2, 1) := by decide +kernel
theorem dL_adds_63 : decode cL_adds 63 = .ok (.aload_n 1, 1) := by decide +kernel
theorem dL_adds_64 : decode cL_adds 64 = .ok (.getfield 76, 3) := by decide +kernel
theorem dL_adds_67 : decode cL_adds 67 = .ok (.iload_n 2, 1) := by decide +kernel
theorem dL_adds_68 : decode cL_adds 68 = .ok (.aaload, 1) := by decide +kernel
theorem dL_adds_69 : decode cL_adds 69 = .ok (.iload_n 3, 1) := by decide +kernel
theorem dL_adds_70 : decode cL_adds 70 = .ok (.invokestatic 32, 3) := by decide +kernel
theorem dL_adds_73 : decode cL_adds 73 = .ok (.aastore, 1) := by decide +kernel
theorem dL_adds_74 : decode cL_adds 74 = .ok (.aload_n 0, 1) := by decide +kernel
theorem dL_adds_75 : decode cL_adds 75 = .ok (.iload_n 2, 1) := by decide +kernel
theorem dL_adds_76 : decode cL_adds 76 = .ok (.iload_n 3, 1) := by decide +kernel
theorem dL_adds_77 : decode cL_adds 77 = .ok (.invokevirtual 83, 3) := by decide +kernel
theorem dL_adds_80 : decode cL_adds 80 = .ok (.aload_n 1, 1) := by decide +kernel
theorem dL_adds_81 : decode cL_adds 81 = .ok (.getfield 76, 3) := by decide +kernel
theorem dL_adds_84 : decode cL_adds 84 = .ok (.iload_n 2, 1) := by decide +kernel
theorem dL_adds_85 : decode cL_adds 85 = .ok (.aaload, 1) := by decide +kernel
theorem dL_adds_86 : decode cL_adds 86 = .ok (.arraylength, 1) := by decide +kernel
theorem dL_adds_87 : decode cL_adds 87 = .ok (.if_icmp .ne 7, 3) := by decide +kernel
theorem dL_adds_90 : decode cL_adds 90 = .ok (.iconst 1, 1) := by decide +kernel
theorem dL_adds_91 : decode cL_adds 91 = .ok (.goto 4, 3) := by decide +kernel
theorem dL_adds_94 : decode cL_adds 94 = .ok (.iconst 0, 1) := by decide +kernel
theorem dL_adds_95 : decode cL_adds 95 = .ok (.ireturn, 1) := by decide +kernel
set_option maxRecDepth 20000 in
theorem ggL_act_L_below : GoodIn wsL_act wsL_below := goodIn_r _ [12, 13] (by decide +kernel) (by decide +kernel)
set_option maxRecDepth 20000 in
theorem gL_act_L_below : GoodIn wsL_act (va_wsS RL 18 yL_below wsL_below) := goodIn_app (goodIn_of _ (by decide +kernel)) ggL_act_L_below
set_option maxRecDepth 20000 in
theorem ggL_act_X2_lid : GoodIn wsL_act wsX2_lid := goodIn_ca (goodIn_ca (goodIn_r _ [18, 19, 20, 21, 22, 23, 17, 24, 25, 26, 27, 28, 29, 30, 31, 136, 137, 138, 139, 140, 141, 142, 143, 144, 145, 146, 147, 148, 149, 150, 151, 152, 153, 154, 155, 156] (by decide +kernel) (by decide +kernel)) (goodIn_sub (fun _ h => List.mem_cons_of_mem _ (List.mem_append_left _ (List.mem_append_left _ (List.mem_append_right _ h)))) (by decide +kernel))) (goodIn_sub (fun _ h => List.mem_cons_of_mem _ (List.mem_append_left _ (List.mem_append_right _ h))) (by decide +kernel))
set_option maxRecDepth 20000 in
theorem gL_act_X2_lid : GoodIn wsL_act (wsV RL 61 RX2 yX2_lid wsX2_lid) := goodIn_app (goodIn_of _ (by decide +kernel)) ggL_act_X2_lid
set_option maxRecDepth 20000 in
theorem ggL_act_X2_setWind : GoodIn wsL_act wsX2_setWind := goodIn_ca (goodIn_ca (goodIn_r _ [35, 19, 36, 22, 23, 17, 24, 25, 26, 27, 28, 29, 30, 31, 136, 137, 138, 139, 140, 141, 142, 143, 144, 145, 146, 147, 148, 149, 150, 151, 152, 153, 154, 155, 156] (by decide +kernel) (by decide +kernel)) (goodIn_sub (fun _ h => List.mem_cons_of_mem _ (List.mem_append_left _ (List.mem_append_left _ (List.mem_append_right _ h)))) (by decide +kernel))) (goodIn_sub (fun _ h => List.mem_cons_of_mem _ (List.mem_append_left _ (List.mem_append_right _ h))) (by decide +kernel))
set_option maxRecDepth 20000 in
theorem gL_act_X2_setWind : GoodIn wsL_act (wsV RL 67 RX2 yX2_setWind wsX2_setWind) := goodIn_app (goodIn_of _ (by decide +kernel)) ggL_act_X2_setWind
set_option maxRecDepth 20000 in
theorem ggL_act_X2_fill : GoodIn wsL_act wsX2_fill := goodIn_ca (goodIn_ca (goodIn_r _ [40, 19, 41, 42, 43, 44, 5, 6, 7, 22, 23, 17, 24, 25, 26, 27, 28, 29, 30, 31, 136, 137, 138, 139, 140, 141, 142, 143, 144, 145, 146, 147, 148, 149, 150, 151, 152, 153, 154, 155, 156, 157, 158, 159, 160, 161, 162, 163, 164, 165, 166, 167, 168, 169, 170, 171, 172] (by decide +kernel) (by decide +kernel)) (goodIn_sub (fun _ h => List.mem_cons_of_mem _ (List.mem_append_left _ (List.mem_append_left _ (List.mem_append_right _ h)))) (by decide +kernel))) (goodIn_sub (fun _ h => List.mem_cons_of_mem _ (List.mem_append_left _ (List.mem_append_right _ h))) (by decide +kernel))
set_option maxRecDepth 20000 in
theorem gL_act_X2_fill : GoodIn wsL_act (wsV RL 86 RX2 yX2_fill wsX2_fill) := goodIn_app (goodIn_of _ (by decide +kernel)) ggL_act_X2_fill
set_option maxRecDepth 20000 in
theorem ggL_act_L_adds : GoodIn wsL_act wsL_adds := goodIn_ca (goodIn_ca (goodIn_r _ [47, 48, 49, 50, 51, 52, 53, 54, 55, 56, 17, 57, 58, 59, 19, 41, 20, 60, 22, 23, 24, 25, 26, 61, 62, 63, 64, 65, 66, 67, 68, 69, 70, 71, 72, 73, 74, 126, 127, 128, 129, 130, 131, 132, 133, 134, 135, 136, 137, 138, 139, 140, 141, 142, 143, 144, 145, 146, 147, 148, 149, 150, 151, 152, 153, 154, 155, 156] (by decide +kernel) (by decide +kernel)) (goodIn_sub (fun _ h => List.mem_cons_of_mem _ (List.mem_append_right _ h)) (by decide +kernel))) (goodIn_sub (fun _ h => List.mem_cons_of_mem _ (List.mem_append_left _ (List.mem_append_left _ (List.mem_append_right _ h)))) (by decide +kernel))
set_option maxRecDepth 20000 in
theorem gL_act_L_adds : GoodIn wsL_act (va_wsS RL 79 yL_adds wsL_adds) := goodIn_app (goodIn_of _ (by decide +kernel)) ggL_act_L_adds
set_option maxRecDepth 20000 in
theorem ggL_act_X2_dawn : GoodIn wsL_act wsX2_dawn := goodIn_ca (goodIn_r _ [78, 58, 59, 42, 79, 19, 80, 81, 82, 83, 84, 85, 86, 87, 88, 89, 90, 91, 92, 93, 94, 95, 96, 97, 98, 99, 100, 101, 102, 103, 104, 105, 106, 107, 108, 109, 110, 111, 112, 113, 136, 137, 138, 139, 157, 158, 159, 160, 161, 162, 163, 164, 165, 166, 167, 168, 169, 170, 171, 172, 140, 141, 142, 143, 144, 145, 146, 147, 148, 149, 150, 151, 152, 153, 154, 155, 156] (by decide +kernel) (by decide +kernel)) (goodIn_sub (fun _ h => List.mem_cons_of_mem _ (List.mem_append_right _ h)) (by decide +kernel))
set_option maxRecDepth 20000 in
theorem gL_act_X2_dawn : GoodIn wsL_act (wsV RL 93 RX2 yX2_dawn wsX2_dawn) := goodIn_app (goodIn_of _ (by decide +kernel)) ggL_act_X2_dawn
set_option maxRecDepth 20000 in
theorem ggL_act_X3_dawn : GoodIn wsL_act wsX3_dawn := goodIn_r _ [117, 118, 119, 120, 121, 122, 123, 124, 51, 125, 126, 127, 128, 129, 130, 131, 132, 133, 134, 135] (by decide +kernel) (by decide +kernel)
set_option maxRecDepth 20000 in
theorem gL_act_X3_dawn : GoodIn wsL_act (wsV RL 97 RX3 yX3_dawn wsX3_dawn) := goodIn_app (goodIn_of _ (by decide +kernel)) ggL_act_X3_dawn
theorem dL_act_0 : decode cL_act 0 = .ok (.iload_n 2, 1) := by decide +kernel
theorem dL_act_1 : decode cL_act 1 = .ok (.aload_n 1, 1) := by decide +kernel
theorem dL_act_2 : decode cL_act 2 = .ok (.getfield 58, 3) := by decide +kernel
theorem dL_act_5 : decode cL_act 5 = .ok (.arraylength, 1) := by decide +kernel
theorem dL_act_6 : decode cL_act 6 = .ok (.invokestatic 18, 3) := by decide +kernel
theorem dL_act_9 : decode cL_act 9 = .ok (.istore_n 3, 1) := by decide +kernel
theorem dL_act_10 : decode cL_act 10 = .ok (.aload_n 1, 1) := by decide +kernel
theorem dL_act_11 : decode cL_act 11 = .ok (.getfield 73, 3) := by decide +kernel
theorem dL_act_14 : decode cL_act 14 = .ok (.arraylength, 1) := by decide +kernel
theorem dL_act_15 : decode cL_act 15 = .ok (.ifCond .ne 7, 3) := by decide +kernel
theorem dL_act_18 : decode cL_act 18 = .ok (.iconst (-1), 1) := by decide +kernel
theorem dL_act_19 : decode cL_act 19 = .ok (.goto 14, 3) := by decide +kernel
theorem dL_act_22 : decode cL_act 22 = .ok (.iload_n 2, 1) := by decide +kernel
theorem dL_act_23 : decode cL_act 23 = .ok (.iconst 2, 1) := by decide +kernel
theorem dL_act_24 : decode cL_act 24 = .ok (.ishr, 1) := by decide +kernel
theorem dL_act_25 : decode cL_act 25 = .ok (.aload_n 1, 1) := by decide +kernel
theorem dL_act_26 : decode cL_act 26 = .ok (.getfield 73, 3) := by decide +kernel
theorem dL_act_29 : decode cL_act 29 = .ok (.arraylength, 1) := by decide +kernel
theorem dL_act_30 : decode cL_act 30 = .ok (.invokestatic 18, 3) := by decide +kernel
theorem dL_act_33 : decode cL_act 33 = .ok (.istore 4, 2) := by decide +kernel
theorem dL_act_35 : decode cL_act 35 = .ok (.iload_n 2, 1) := by decide +kernel
theorem dL_act_36 : decode cL_act 36 = .ok (.bipush 8, 2) := by decide +kernel
theorem dL_act_38 : decode cL_act 38 = .ok (.ishr, 1) := by decide +kernel
theorem dL_act_39 : decode cL_act 39 = .ok (.iconst 5, 1) := by decide +kernel
theorem dL_act_40 : decode cL_act 40 = .ok (.invokestatic 18, 3) := by decide +kernel
theorem dL_act_43 : decode cL_act 43 = .ok (.tableswitch 248 0 3 #[29, 79, 137, 226], 29) := by decide +kernel
theorem dL_act_72 : decode cL_act 72 = .ok (.aload_n 1, 1) := by decide +kernel
theorem dL_act_73 : decode cL_act 73 = .ok (.getfield 58, 3) := by decide +kernel
theorem dL_act_76 : decode cL_act 76 = .ok (.iload_n 3, 1) := by decide +kernel
theorem dL_act_77 : decode cL_act 77 = .ok (.aaload, 1) := by decide +kernel
theorem dL_act_78 : decode cL_act 78 = .ok (.iconst 2, 1) := by decide +kernel
theorem dL_act_79 : decode cL_act 79 = .ok (.iaload, 1) := by decide +kernel
theorem dL_act_80 : decode cL_act 80 = .ok (.istore 5, 2) := by decide +kernel
theorem dL_act_82 : decode cL_act 82 = .ok (.aload_n 1, 1) := by decide +kernel
theorem dL_act_83 : decode cL_act 83 = .ok (.getfield 58, 3) := by decide +kernel
theorem dL_act_86 : decode cL_act 86 = .ok (.iload_n 3, 1) := by decide +kernel
theorem dL_act_87 : decode cL_act 87 = .ok (.aaload, 1) := by decide +kernel
theorem dL_act_88 : decode cL_act 88 = .ok (.iconst 2, 1) := by decide +kernel
theorem dL_act_89 : decode cL_act 89 = .ok (.iload_n 2, 1) := by decide +kernel
theorem dL_act_90 : decode cL_act 90 = .ok (.iconst 4, 1) := by decide +kernel
theorem dL_act_91 : decode cL_act 91 = .ok (.ishr, 1) := by decide +kernel
theorem dL_act_92 : decode cL_act 92 = .ok (.bipush 10, 2) := by decide +kernel
theorem dL_act_94 : decode cL_act 94 = .ok (.invokestatic 18, 3) := by decide +kernel
theorem dL_act_97 : decode cL_act 97 = .ok (.iastore, 1) := by decide +kernel
theorem dL_act_98 : decode cL_act 98 = .ok (.aload_n 0, 1) := by decide +kernel
theorem dL_act_99 : decode cL_act 99 = .ok (.iload_n 3, 1) := by decide +kernel
theorem dL_act_100 : decode cL_act 100 = .ok (.aload_n 1, 1) := by decide +kernel
theorem dL_act_101 : decode cL_act 101 = .ok (.getfield 58, 3) := by decide +kernel
theorem dL_act_104 : decode cL_act 104 = .ok (.iload_n 3, 1) := by decide +kernel
theorem dL_act_105 : decode cL_act 105 = .ok (.aaload, 1) := by decide +kernel
theorem dL_act_106 : decode cL_act 106 = .ok (.iconst 2, 1) := by decide +kernel
theorem dL_act_107 : decode cL_act 107 = .ok (.iaload, 1) := by decide +kernel
theorem dL_act_108 : decode cL_act 108 = .ok (.invokevirtual 61, 3) := by decide +kernel
theorem dL_act_111 : decode cL_act 111 = .ok (.iload 5, 2) := by decide +kernel
theorem dL_act_113 : decode cL_act 113 = .ok (.if_icmp .ne 7, 3) := by decide +kernel
theorem dL_act_116 : decode cL_act 116 = .ok (.iconst 1, 1) := by decide +kernel
theorem dL_act_117 : decode cL_act 117 = .ok (.goto 4, 3) := by decide +kernel
theorem dL_act_120 : decode cL_act 120 = .ok (.iconst 0, 1) := by decide +kernel
theorem dL_act_121 : decode cL_act 121 = .ok (.ireturn, 1) := by decide +kernel
theorem dL_act_122 : decode cL_act 122 = .ok (.iload_n 2, 1) := by decide +kernel
theorem dL_act_123 : decode cL_act 123 = .ok (.iconst 3, 1) := by decide +kernel
theorem dL_act_124 : decode cL_act 124 = .ok (.ishr, 1) := by decide +kernel
theorem dL_act_125 : decode cL_act 125 = .ok (.bipush 10, 2) := by decide +kernel
theorem dL_act_127 : decode cL_act 127 = .ok (.invokestatic 18, 3) := by decide +kernel
theorem dL_act_130 : decode cL_act 130 = .ok (.istore 6, 2) := by decide +kernel
theorem dL_act_132 : decode cL_act 132 = .ok (.aload_n 1, 1) := by decide +kernel
theorem dL_act_133 : decode cL_act 133 = .ok (.getfield 64, 3) := by decide +kernel
theorem dL_act_136 : decode cL_act 136 = .ok (.iload 6, 2) := by decide +kernel
theorem dL_act_138 : decode cL_act 138 = .ok (.iaload, 1) := by decide +kernel
theorem dL_act_139 : decode cL_act 139 = .ok (.istore 7, 2) := by decide +kernel
theorem dL_act_141 : decode cL_act 141 = .ok (.aload_n 1, 1) := by decide +kernel
theorem dL_act_142 : decode cL_act 142 = .ok (.getfield 64, 3) := by decide +kernel
theorem dL_act_145 : decode cL_act 145 = .ok (.iload 6, 2) := by decide +kernel
theorem dL_act_147 : decode cL_act 147 = .ok (.iload_n 2, 1) := by decide +kernel
theorem dL_act_148 : decode cL_act 148 = .ok (.iconst 5, 1) := by decide +kernel
theorem dL_act_149 : decode cL_act 149 = .ok (.ishr, 1) := by decide +kernel
theorem dL_act_150 : decode cL_act 150 = .ok (.bipush 10, 2) := by decide +kernel
theorem dL_act_152 : decode cL_act 152 = .ok (.invokestatic 18, 3) := by decide +kernel
theorem dL_act_155 : decode cL_act 155 = .ok (.iastore, 1) := by decide +kernel
theorem dL_act_156 : decode cL_act 156 = .ok (.aload_n 0, 1) := by decide +kernel
theorem dL_act_157 : decode cL_act 157 = .ok (.iload 6, 2) := by decide +kernel
theorem dL_act_159 : decode cL_act 159 = .ok (.aload_n 1, 1) := by decide +kernel
theorem dL_act_160 : decode cL_act 160 = .ok (.getfield 64, 3) := by decide +kernel
theorem dL_act_163 : decode cL_act 163 = .ok (.iload 6, 2) := by decide +kernel
theorem dL_act_165 : decode cL_act 165 = .ok (.iaload, 1) := by decide +kernel
theorem dL_act_166 : decode cL_act 166 = .ok (.invokevirtual 67, 3) := by decide +kernel
theorem dL_act_169 : decode cL_act 169 = .ok (.iload 7, 2) := by decide +kernel
theorem dL_act_171 : decode cL_act 171 = .ok (.if_icmp .ne 7, 3) := by decide +kernel
theorem dL_act_174 : decode cL_act 174 = .ok (.iconst 1, 1) := by decide +kernel
theorem dL_act_175 : decode cL_act 175 = .ok (.goto 4, 3) := by decide +kernel
theorem dL_act_178 : decode cL_act 178 = .ok (.iconst 0, 1) := by decide +kernel
theorem dL_act_179 : decode cL_act 179 = .ok (.ireturn, 1) := by decide +kernel
theorem dL_act_180 : decode cL_act 180 = .ok (.iload 4, 2) := by decide +kernel
theorem dL_act_182 : decode cL_act 182 = .ok (.ifCond .ge 5, 3) := by decide +kernel
theorem dL_act_185 : decode cL_act 185 = .ok (.iconst 1, 1) := by decide +kernel
theorem dL_act_186 : decode cL_act 186 = .ok (.ireturn, 1) := by decide +kernel
theorem dL_act_187 : decode cL_act 187 = .ok (.iconst 1, 1) := by decide +kernel
theorem dL_act_188 : decode cL_act 188 = .ok (.iload_n 2, 1) := by decide +kernel
theorem dL_act_189 : decode cL_act 189 = .ok (.iconst 3, 1) := by decide +kernel
theorem dL_act_190 : decode cL_act 190 = .ok (.ishr, 1) := by decide +kernel
theorem dL_act_191 : decode cL_act 191 = .ok (.iload_n 2, 1) := by decide +kernel
theorem dL_act_192 : decode cL_act 192 = .ok (.bipush 6, 2) := by decide +kernel
theorem dL_act_194 : decode cL_act 194 = .ok (.ishr, 1) := by decide +kernel
theorem dL_act_195 : decode cL_act 195 = .ok (.iconst 2, 1) := by decide +kernel
theorem dL_act_196 : decode cL_act 196 = .ok (.invokestatic 18, 3) := by decide +kernel
theorem dL_act_199 : decode cL_act 199 = .ok (.ifCond .ne 9, 3) := by decide +kernel
theorem dL_act_202 : decode cL_act 202 = .ok (.sipush 999, 3) := by decide +kernel
theorem dL_act_205 : decode cL_act 205 = .ok (.goto 5, 3) := by decide +kernel
theorem dL_act_208 : decode cL_act 208 = .ok (.bipush 90, 2) := by decide +kernel
theorem dL_act_210 : decode cL_act 210 = .ok (.invokestatic 18, 3) := by decide +kernel
theorem dL_act_213 : decode cL_act 213 = .ok (.iadd, 1) := by decide +kernel
theorem dL_act_214 : decode cL_act 214 = .ok (.istore 8, 2) := by decide +kernel
theorem dL_act_216 : decode cL_act 216 = .ok (.aload_n 1, 1) := by decide +kernel
theorem dL_act_217 : decode cL_act 217 = .ok (.getfield 73, 3) := by decide +kernel
theorem dL_act_220 : decode cL_act 220 = .ok (.iload 4, 2) := by decide +kernel
theorem dL_act_222 : decode cL_act 222 = .ok (.aaload, 1) := by decide +kernel
theorem dL_act_223 : decode cL_act 223 = .ok (.iconst 3, 1) := by decide +kernel
theorem dL_act_224 : decode cL_act 224 = .ok (.sipush 999, 3) := by decide +kernel
theorem dL_act_227 : decode cL_act 227 = .ok (.aload_n 1, 1) := by decide +kernel
theorem dL_act_228 : decode cL_act 228 = .ok (.getfield 73, 3) := by decide +kernel
theorem dL_act_231 : decode cL_act 231 = .ok (.iload 4, 2) := by decide +kernel
theorem dL_act_233 : decode cL_act 233 = .ok (.aaload, 1) := by decide +kernel
theorem dL_act_234 : decode cL_act 234 = .ok (.iconst 3, 1) := by decide +kernel
theorem dL_act_235 : decode cL_act 235 = .ok (.iaload, 1) := by decide +kernel
theorem dL_act_236 : decode cL_act 236 = .ok (.iload 8, 2) := by decide +kernel
theorem dL_act_238 : decode cL_act 238 = .ok (.iadd, 1) := by decide +kernel
theorem dL_act_239 : decode cL_act 239 = .ok (.invokestatic 36, 3) := by decide +kernel
theorem dL_act_242 : decode cL_act 242 = .ok (.iastore, 1) := by decide +kernel
theorem dL_act_243 : decode cL_act 243 = .ok (.aload_n 0, 1) := by decide +kernel
theorem dL_act_244 : decode cL_act 244 = .ok (.iload 4, 2) := by decide +kernel
theorem dL_act_246 : decode cL_act 246 = .ok (.iload 8, 2) := by decide +kernel
theorem dL_act_248 : decode cL_act 248 = .ok (.invokevirtual 86, 3) := by decide +kernel
theorem dL_act_251 : decode cL_act 251 = .ok (.aload_n 1, 1) := by decide +kernel
theorem dL_act_252 : decode cL_act 252 = .ok (.getfield 73, 3) := by decide +kernel
theorem dL_act_255 : decode cL_act 255 = .ok (.iload 4, 2) := by decide +kernel
theorem dL_act_257 : decode cL_act 257 = .ok (.aaload, 1) := by decide +kernel
theorem dL_act_258 : decode cL_act 258 = .ok (.iconst 3, 1) := by decide +kernel
theorem dL_act_259 : decode cL_act 259 = .ok (.iaload, 1) := by decide +kernel
theorem dL_act_260 : decode cL_act 260 = .ok (.if_icmp .ne 7, 3) := by decide +kernel
theorem dL_act_263 : decode cL_act 263 = .ok (.iconst 1, 1) := by decide +kernel
theorem dL_act_264 : decode cL_act 264 = .ok (.goto 4, 3) := by decide +kernel
theorem dL_act_267 : decode cL_act 267 = .ok (.iconst 0, 1) := by decide +kernel
theorem dL_act_268 : decode cL_act 268 = .ok (.ireturn, 1) := by decide +kernel
theorem dL_act_269 : decode cL_act 269 = .ok (.iload 4, 2) := by decide +kernel
theorem dL_act_271 : decode cL_act 271 = .ok (.ifCond .lt 14, 3) := by decide +kernel
theorem dL_act_274 : decode cL_act 274 = .ok (.aload_n 0, 1) := by decide +kernel
theorem dL_act_275 : decode cL_act 275 = .ok (.aload_n 1, 1) := by decide +kernel
theorem dL_act_276 : decode cL_act 276 = .ok (.iload 4, 2) := by decide +kernel
theorem dL_act_278 : decode cL_act 278 = .ok (.iload_n 3, 1) := by decide +kernel
theorem dL_act_279 : decode cL_act 279 = .ok (.invokestatic 79, 3) := by decide +kernel
theorem dL_act_282 : decode cL_act 282 = .ok (.ifCond .eq 7, 3) := by decide +kernel
theorem dL_act_285 : decode cL_act 285 = .ok (.iconst 1, 1) := by decide +kernel
theorem dL_act_286 : decode cL_act 286 = .ok (.goto 4, 3) := by decide +kernel
theorem dL_act_289 : decode cL_act 289 = .ok (.iconst 0, 1) := by decide +kernel
theorem dL_act_290 : decode cL_act 290 = .ok (.ireturn, 1) := by decide +kernel
theorem dL_act_291 : decode cL_act 291 = .ok (.aload_n 1, 1) := by decide +kernel
theorem dL_act_292 : decode cL_act 292 = .ok (.getfield 89, 3) := by decide +kernel
theorem dL_act_295 : decode cL_act 295 = .ok (.sipush 600, 3) := by decide +kernel
theorem dL_act_298 : decode cL_act 298 = .ok (.if_icmp .lt 14, 3) := by decide +kernel
theorem dL_act_301 : decode cL_act 301 = .ok (.aload_n 0, 1) := by decide +kernel
theorem dL_act_302 : decode cL_act 302 = .ok (.invokevirtual 93, 3) := by decide +kernel
theorem dL_act_305 : decode cL_act 305 = .ok (.aload_n 1, 1) := by decide +kernel
theorem dL_act_306 : decode cL_act 306 = .ok (.invokevirtual 97, 3) := by decide +kernel
theorem dL_act_309 : decode cL_act 309 = .ok (.if_icmp .ne 7, 3) := by decide +kernel
theorem dL_act_312 : decode cL_act 312 = .ok (.iconst 1, 1) := by decide +kernel
theorem dL_act_313 : decode cL_act 313 = .ok (.goto 4, 3) := by decide +kernel
theorem dL_act_316 : decode cL_act 316 = .ok (.iconst 0, 1) := by decide +kernel
theorem dL_act_317 : decode cL_act 317 = .ok (.ireturn, 1) := by decide +kernel
