set_option maxRecDepth 20000 in
theorem ggL_corner_X2_corner : GoodIn wsL_corner wsX2_corner := goodIn_ca (goodIn_ca (goodIn_r _ [7, 8, 9, 10, 11, 6, 12, 13, 14, 15, 16, 17, 18, 19, 20, 21, 22, 23, 24, 25, 26, 27, 28, 29, 30, 31, 32, 33, 34, 35, 36, 37, 38, 39, 40, 41, 42, 43, 44, 45, 46, 47, 48, 49] (by decide +kernel) (by decide +kernel)) (goodIn_sub (fun _ h => List.mem_cons_of_mem _ (List.mem_append_left _ (List.mem_append_right _ h))) (by decide +kernel))) (goodIn_sub (fun _ h => List.mem_cons_of_mem _ (List.mem_append_right _ h)) (by decide +kernel))
set_option maxRecDepth 20000 in
theorem gL_corner_X2_corner : GoodIn wsL_corner (wsV RL 7 RX2 yX2_corner wsX2_corner) := goodIn_app (goodIn_of _ (by decide +kernel)) ggL_corner_X2_corner
theorem dL_corner_0 : decode cL_corner 0 = .ok (.aload_n 2, 1) := by decide +kernel
theorem dL_corner_1 : decode cL_corner 1 = .ok (.iconst 0, 1) := by decide +kernel
theorem dL_corner_2 : decode cL_corner 2 = .ok (.aload_n 0, 1) := by decide +kernel
theorem dL_corner_3 : decode cL_corner 3 = .ok (.iload_n 1, 1) := by decide +kernel
theorem dL_corner_4 : decode cL_corner 4 = .ok (.invokevirtual 7, 3) := by decide +kernel
theorem dL_corner_7 : decode cL_corner 7 = .ok (.i2l, 1) := by decide +kernel
theorem dL_corner_8 : decode cL_corner 8 = .ok (.lastore, 1) := by decide +kernel
theorem dL_corner_9 : decode cL_corner 9 = .ok (.goto 9, 3) := by decide +kernel
theorem dL_corner_12 : decode cL_corner 12 = .ok (.astore_n 3, 1) := by decide +kernel
theorem dL_corner_13 : decode cL_corner 13 = .ok (.iconst 1, 1) := by decide +kernel
theorem dL_corner_14 : decode cL_corner 14 = .ok (.ireturn, 1) := by decide +kernel
theorem dL_corner_15 : decode cL_corner 15 = .ok (.astore_n 3, 1) := by decide +kernel
theorem dL_corner_16 : decode cL_corner 16 = .ok (.iconst 2, 1) := by decide +kernel
theorem dL_corner_17 : decode cL_corner 17 = .ok (.ireturn, 1) := by decide +kernel
theorem dL_corner_18 : decode cL_corner 18 = .ok (.iconst 0, 1) := by decide +kernel
theorem dL_corner_19 : decode cL_corner 19 = .ok (.ireturn, 1) := by decide +kernel
set_option maxRecDepth 20000 in
theorem ggL_street_X2_street : GoodIn wsL_street wsX2_street := goodIn_ca (goodIn_ca (goodIn_ca (goodIn_r _ [8, 9, 10, 11, 12, 13, 14, 15, 7, 16, 17, 18, 19, 20, 21, 22, 23, 24, 25, 26, 27, 28, 29, 30, 31, 32, 33, 34, 35, 36, 37, 38, 39, 40, 41, 42, 43, 44, 45, 46, 47, 48, 49, 50, 51, 52, 53, 54, 55, 56, 57, 58, 59, 60, 61, 62, 63, 64, 65, 66, 67, 68, 69, 70, 71, 72, 73, 74] (by decide +kernel) (by decide +kernel)) (goodIn_sub (fun _ h => List.mem_cons_of_mem _ (List.mem_append_left _ (List.mem_append_left _ (List.mem_append_right _ h)))) (by decide +kernel))) (goodIn_sub (fun _ h => List.mem_cons_of_mem _ (List.mem_append_left _ (List.mem_append_right _ h))) (by decide +kernel))) (goodIn_sub (fun _ h => List.mem_cons_of_mem _ (List.mem_append_right _ h)) (by decide +kernel))
set_option maxRecDepth 20000 in
theorem gL_street_X2_street : GoodIn wsL_street (wsV RL 17 RX2 yX2_street wsX2_street) := goodIn_app (goodIn_of _ (by decide +kernel)) ggL_street_X2_street
theorem dL_street_0 : decode cL_street 0 = .ok (.aload 4, 2) := by decide +kernel
theorem dL_street_2 : decode cL_street 2 = .ok (.iconst 0, 1) := by decide +kernel
theorem dL_street_3 : decode cL_street 3 = .ok (.aload_n 0, 1) := by decide +kernel
theorem dL_street_4 : decode cL_street 4 = .ok (.iload_n 1, 1) := by decide +kernel
theorem dL_street_5 : decode cL_street 5 = .ok (.iload_n 2, 1) := by decide +kernel
theorem dL_street_6 : decode cL_street 6 = .ok (.iload_n 3, 1) := by decide +kernel
theorem dL_street_7 : decode cL_street 7 = .ok (.invokevirtual 17, 3) := by decide +kernel
theorem dL_street_10 : decode cL_street 10 = .ok (.i2l, 1) := by decide +kernel
theorem dL_street_11 : decode cL_street 11 = .ok (.lastore, 1) := by decide +kernel
theorem dL_street_12 : decode cL_street 12 = .ok (.goto 15, 3) := by decide +kernel
theorem dL_street_15 : decode cL_street 15 = .ok (.astore 5, 2) := by decide +kernel
theorem dL_street_17 : decode cL_street 17 = .ok (.iconst 1, 1) := by decide +kernel
theorem dL_street_18 : decode cL_street 18 = .ok (.ireturn, 1) := by decide +kernel
theorem dL_street_19 : decode cL_street 19 = .ok (.astore 5, 2) := by decide +kernel
theorem dL_street_21 : decode cL_street 21 = .ok (.iconst 2, 1) := by decide +kernel
theorem dL_street_22 : decode cL_street 22 = .ok (.ireturn, 1) := by decide +kernel
theorem dL_street_23 : decode cL_street 23 = .ok (.astore 5, 2) := by decide +kernel
theorem dL_street_25 : decode cL_street 25 = .ok (.iconst 3, 1) := by decide +kernel
theorem dL_street_26 : decode cL_street 26 = .ok (.ireturn, 1) := by decide +kernel
theorem dL_street_27 : decode cL_street 27 = .ok (.iconst 0, 1) := by decide +kernel
theorem dL_street_28 : decode cL_street 28 = .ok (.ireturn, 1) := by decide +kernel
set_option maxRecDepth 20000 in
theorem ggL_lamp_X2_lamp : GoodIn wsL_lamp wsX2_lamp := goodIn_ca (goodIn_ca (goodIn_ca (goodIn_r _ [8, 9, 10, 11, 12, 13, 7, 14, 15, 16, 17, 18, 19, 20, 21, 22, 23, 24, 25, 26, 27, 28, 29, 30, 31, 32, 33, 34, 35, 36, 37, 38, 39, 40, 41, 42, 43, 44, 45, 46, 47, 48, 49, 50, 51, 52, 53, 54, 55] (by decide +kernel) (by decide +kernel)) (goodIn_sub (fun _ h => List.mem_cons_of_mem _ (List.mem_append_left _ (List.mem_append_left _ (List.mem_append_right _ h)))) (by decide +kernel))) (goodIn_sub (fun _ h => List.mem_cons_of_mem _ (List.mem_append_left _ (List.mem_append_right _ h))) (by decide +kernel))) (goodIn_sub (fun _ h => List.mem_cons_of_mem _ (List.mem_append_right _ h)) (by decide +kernel))
set_option maxRecDepth 20000 in
theorem gL_lamp_X2_lamp : GoodIn wsL_lamp (wsV RL 23 RX2 yX2_lamp wsX2_lamp) := goodIn_app (goodIn_of _ (by decide +kernel)) ggL_lamp_X2_lamp
theorem dL_lamp_0 : decode cL_lamp 0 = .ok (.aload_n 3, 1) := by decide +kernel
theorem dL_lamp_1 : decode cL_lamp 1 = .ok (.iconst 0, 1) := by decide +kernel
theorem dL_lamp_2 : decode cL_lamp 2 = .ok (.aload_n 0, 1) := by decide +kernel
theorem dL_lamp_3 : decode cL_lamp 3 = .ok (.iload_n 1, 1) := by decide +kernel
theorem dL_lamp_4 : decode cL_lamp 4 = .ok (.iload_n 2, 1) := by decide +kernel
theorem dL_lamp_5 : decode cL_lamp 5 = .ok (.invokevirtual 23, 3) := by decide +kernel
theorem dL_lamp_8 : decode cL_lamp 8 = .ok (.i2l, 1) := by decide +kernel
theorem dL_lamp_9 : decode cL_lamp 9 = .ok (.lastore, 1) := by decide +kernel
theorem dL_lamp_10 : decode cL_lamp 10 = .ok (.goto 15, 3) := by decide +kernel
theorem dL_lamp_13 : decode cL_lamp 13 = .ok (.astore 4, 2) := by decide +kernel
theorem dL_lamp_15 : decode cL_lamp 15 = .ok (.iconst 1, 1) := by decide +kernel
theorem dL_lamp_16 : decode cL_lamp 16 = .ok (.ireturn, 1) := by decide +kernel
theorem dL_lamp_17 : decode cL_lamp 17 = .ok (.astore 4, 2) := by decide +kernel
theorem dL_lamp_19 : decode cL_lamp 19 = .ok (.iconst 2, 1) := by decide +kernel
theorem dL_lamp_20 : decode cL_lamp 20 = .ok (.ireturn, 1) := by decide +kernel
theorem dL_lamp_21 : decode cL_lamp 21 = .ok (.astore 4, 2) := by decide +kernel
theorem dL_lamp_23 : decode cL_lamp 23 = .ok (.iconst 3, 1) := by decide +kernel
theorem dL_lamp_24 : decode cL_lamp 24 = .ok (.ireturn, 1) := by decide +kernel
theorem dL_lamp_25 : decode cL_lamp 25 = .ok (.iconst 0, 1) := by decide +kernel
theorem dL_lamp_26 : decode cL_lamp 26 = .ok (.ireturn, 1) := by decide +kernel
set_option maxRecDepth 20000 in
theorem ggL_lid_X2_lid : GoodIn wsL_lid wsX2_lid := goodIn_ca (goodIn_ca (goodIn_r _ [7, 8, 9, 10, 11, 12, 6, 13, 14, 15, 16, 17, 18, 19, 20, 21, 22, 23, 24, 25, 26, 27, 28, 29, 30, 31, 32, 33, 34, 35, 36, 37, 38, 39, 40, 41] (by decide +kernel) (by decide +kernel)) (goodIn_sub (fun _ h => List.mem_cons_of_mem _ (List.mem_append_left _ (List.mem_append_right _ h))) (by decide +kernel))) (goodIn_sub (fun _ h => List.mem_cons_of_mem _ (List.mem_append_right _ h)) (by decide +kernel))
set_option maxRecDepth 20000 in
theorem gL_lid_X2_lid : GoodIn wsL_lid (wsV RL 27 RX2 yX2_lid wsX2_lid) := goodIn_app (goodIn_of _ (by decide +kernel)) ggL_lid_X2_lid
theorem dL_lid_0 : decode cL_lid 0 = .ok (.aload_n 3, 1) := by decide +kernel
theorem dL_lid_1 : decode cL_lid 1 = .ok (.iconst 0, 1) := by decide +kernel
theorem dL_lid_2 : decode cL_lid 2 = .ok (.aload_n 0, 1) := by decide +kernel
theorem dL_lid_3 : decode cL_lid 3 = .ok (.iload_n 1, 1) := by decide +kernel
theorem dL_lid_4 : decode cL_lid 4 = .ok (.iload_n 2, 1) := by decide +kernel
theorem dL_lid_5 : decode cL_lid 5 = .ok (.invokevirtual 27, 3) := by decide +kernel
theorem dL_lid_8 : decode cL_lid 8 = .ok (.i2l, 1) := by decide +kernel
theorem dL_lid_9 : decode cL_lid 9 = .ok (.lastore, 1) := by decide +kernel
theorem dL_lid_10 : decode cL_lid 10 = .ok (.goto 11, 3) := by decide +kernel
theorem dL_lid_13 : decode cL_lid 13 = .ok (.astore 4, 2) := by decide +kernel
theorem dL_lid_15 : decode cL_lid 15 = .ok (.iconst 1, 1) := by decide +kernel
theorem dL_lid_16 : decode cL_lid 16 = .ok (.ireturn, 1) := by decide +kernel
theorem dL_lid_17 : decode cL_lid 17 = .ok (.astore 4, 2) := by decide +kernel
theorem dL_lid_19 : decode cL_lid 19 = .ok (.iconst 2, 1) := by decide +kernel
theorem dL_lid_20 : decode cL_lid 20 = .ok (.ireturn, 1) := by decide +kernel
theorem dL_lid_21 : decode cL_lid 21 = .ok (.iconst 0, 1) := by decide +kernel
theorem dL_lid_22 : decode cL_lid 22 = .ok (.ireturn, 1) := by decide +kernel
set_option maxRecDepth 20000 in
theorem ggL_setWind_X2_setWind : GoodIn wsL_setWind wsX2_setWind := goodIn_ca (goodIn_ca (goodIn_r _ [7, 8, 9, 10, 11, 6, 12, 13, 14, 15, 16, 17, 18, 19, 20, 21, 22, 23, 24, 25, 26, 27, 28, 29, 30, 31, 32, 33, 34, 35, 36, 37, 38, 39, 40] (by decide +kernel) (by decide +kernel)) (goodIn_sub (fun _ h => List.mem_cons_of_mem _ (List.mem_append_left _ (List.mem_append_right _ h))) (by decide +kernel))) (goodIn_sub (fun _ h => List.mem_cons_of_mem _ (List.mem_append_right _ h)) (by decide +kernel))
set_option maxRecDepth 20000 in
theorem gL_setWind_X2_setWind : GoodIn wsL_setWind (wsV RL 30 RX2 yX2_setWind wsX2_setWind) := goodIn_app (goodIn_of _ (by decide +kernel)) ggL_setWind_X2_setWind
theorem dL_setWind_0 : decode cL_setWind 0 = .ok (.aload_n 3, 1) := by decide +kernel
theorem dL_setWind_1 : decode cL_setWind 1 = .ok (.iconst 0, 1) := by decide +kernel
theorem dL_setWind_2 : decode cL_setWind 2 = .ok (.aload_n 0, 1) := by decide +kernel
theorem dL_setWind_3 : decode cL_setWind 3 = .ok (.iload_n 1, 1) := by decide +kernel
theorem dL_setWind_4 : decode cL_setWind 4 = .ok (.iload_n 2, 1) := by decide +kernel
theorem dL_setWind_5 : decode cL_setWind 5 = .ok (.invokevirtual 30, 3) := by decide +kernel
theorem dL_setWind_8 : decode cL_setWind 8 = .ok (.i2l, 1) := by decide +kernel
theorem dL_setWind_9 : decode cL_setWind 9 = .ok (.lastore, 1) := by decide +kernel
theorem dL_setWind_10 : decode cL_setWind 10 = .ok (.goto 11, 3) := by decide +kernel
theorem dL_setWind_13 : decode cL_setWind 13 = .ok (.astore 4, 2) := by decide +kernel
theorem dL_setWind_15 : decode cL_setWind 15 = .ok (.iconst 1, 1) := by decide +kernel
theorem dL_setWind_16 : decode cL_setWind 16 = .ok (.ireturn, 1) := by decide +kernel
theorem dL_setWind_17 : decode cL_setWind 17 = .ok (.astore 4, 2) := by decide +kernel
theorem dL_setWind_19 : decode cL_setWind 19 = .ok (.iconst 2, 1) := by decide +kernel
theorem dL_setWind_20 : decode cL_setWind 20 = .ok (.ireturn, 1) := by decide +kernel
theorem dL_setWind_21 : decode cL_setWind 21 = .ok (.iconst 0, 1) := by decide +kernel
theorem dL_setWind_22 : decode cL_setWind 22 = .ok (.ireturn, 1) := by decide +kernel
set_option maxRecDepth 20000 in
theorem ggL_hire_X2_hire : GoodIn wsL_hire wsX2_hire := goodIn_ca (goodIn_ca (goodIn_ca (goodIn_r _ [8, 9, 10, 11, 12, 13, 14, 15, 7, 16, 17, 18, 19, 20, 21, 22, 23, 24, 25, 26, 27, 28, 29, 30, 31, 32, 33, 34, 35, 36, 37, 38, 39, 40, 41, 42, 43, 44, 45, 46, 47, 48, 49, 50, 51, 52, 53, 54, 55, 56, 57, 58, 59, 60, 61, 62, 63, 64, 65, 66, 67, 68, 69, 70, 71, 72, 73, 74, 75, 76, 77, 78, 79, 80, 81, 82, 83, 84, 85, 86, 87] (by decide +kernel) (by decide +kernel)) (goodIn_sub (fun _ h => List.mem_cons_of_mem _ (List.mem_append_left _ (List.mem_append_left _ (List.mem_append_right _ h)))) (by decide +kernel))) (goodIn_sub (fun _ h => List.mem_cons_of_mem _ (List.mem_append_left _ (List.mem_append_right _ h))) (by decide +kernel))) (goodIn_sub (fun _ h => List.mem_cons_of_mem _ (List.mem_append_right _ h)) (by decide +kernel))
set_option maxRecDepth 20000 in
theorem gL_hire_X2_hire : GoodIn wsL_hire (wsV RL 33 RX2 yX2_hire wsX2_hire) := goodIn_app (goodIn_of _ (by decide +kernel)) ggL_hire_X2_hire
theorem dL_hire_0 : decode cL_hire 0 = .ok (.aload 4, 2) := by decide +kernel
theorem dL_hire_2 : decode cL_hire 2 = .ok (.iconst 0, 1) := by decide +kernel
theorem dL_hire_3 : decode cL_hire 3 = .ok (.aload_n 0, 1) := by decide +kernel
theorem dL_hire_4 : decode cL_hire 4 = .ok (.iload_n 1, 1) := by decide +kernel
theorem dL_hire_5 : decode cL_hire 5 = .ok (.iload_n 2, 1) := by decide +kernel
theorem dL_hire_6 : decode cL_hire 6 = .ok (.iload_n 3, 1) := by decide +kernel
theorem dL_hire_7 : decode cL_hire 7 = .ok (.invokevirtual 33, 3) := by decide +kernel
theorem dL_hire_10 : decode cL_hire 10 = .ok (.i2l, 1) := by decide +kernel
theorem dL_hire_11 : decode cL_hire 11 = .ok (.lastore, 1) := by decide +kernel
theorem dL_hire_12 : decode cL_hire 12 = .ok (.goto 15, 3) := by decide +kernel
theorem dL_hire_15 : decode cL_hire 15 = .ok (.astore 5, 2) := by decide +kernel
theorem dL_hire_17 : decode cL_hire 17 = .ok (.iconst 1, 1) := by decide +kernel
theorem dL_hire_18 : decode cL_hire 18 = .ok (.ireturn, 1) := by decide +kernel
theorem dL_hire_19 : decode cL_hire 19 = .ok (.astore 5, 2) := by decide +kernel
theorem dL_hire_21 : decode cL_hire 21 = .ok (.iconst 2, 1) := by decide +kernel
theorem dL_hire_22 : decode cL_hire 22 = .ok (.ireturn, 1) := by decide +kernel
theorem dL_hire_23 : decode cL_hire 23 = .ok (.astore 5, 2) := by decide +kernel
theorem dL_hire_25 : decode cL_hire 25 = .ok (.iconst 3, 1) := by decide +kernel
theorem dL_hire_26 : decode cL_hire 26 = .ok (.ireturn, 1) := by decide +kernel
theorem dL_hire_27 : decode cL_hire 27 = .ok (.iconst 0, 1) := by decide +kernel
theorem dL_hire_28 : decode cL_hire 28 = .ok (.ireturn, 1) := by decide +kernel
set_option maxRecDepth 20000 in
theorem ggL_round_X2_round : GoodIn wsL_round wsX2_round := goodIn_ca (goodIn_ca (goodIn_r _ [7, 8, 9, 10, 11, 12, 13, 14, 15, 6, 16, 17, 18, 19, 20, 21, 22, 23, 24, 25, 26, 27, 28, 29, 30, 31, 32, 33, 34, 35, 36, 37, 38, 39, 40, 41, 42, 43, 44, 45, 46, 47, 48, 49, 50, 51, 52, 53] (by decide +kernel) (by decide +kernel)) (goodIn_sub (fun _ h => List.mem_cons_of_mem _ (List.mem_append_left _ (List.mem_append_right _ h))) (by decide +kernel))) (goodIn_sub (fun _ h => List.mem_cons_of_mem _ (List.mem_append_right _ h)) (by decide +kernel))
set_option maxRecDepth 20000 in
theorem gL_round_X2_round : GoodIn wsL_round (wsV RL 36 RX2 yX2_round wsX2_round) := goodIn_app (goodIn_of _ (by decide +kernel)) ggL_round_X2_round
theorem dL_round_0 : decode cL_round 0 = .ok (.aload_n 3, 1) := by decide +kernel
theorem dL_round_1 : decode cL_round 1 = .ok (.iconst 0, 1) := by decide +kernel
theorem dL_round_2 : decode cL_round 2 = .ok (.aload_n 0, 1) := by decide +kernel
theorem dL_round_3 : decode cL_round 3 = .ok (.iload_n 1, 1) := by decide +kernel
theorem dL_round_4 : decode cL_round 4 = .ok (.iload_n 2, 1) := by decide +kernel
theorem dL_round_5 : decode cL_round 5 = .ok (.invokevirtual 36, 3) := by decide +kernel
theorem dL_round_8 : decode cL_round 8 = .ok (.i2l, 1) := by decide +kernel
theorem dL_round_9 : decode cL_round 9 = .ok (.lastore, 1) := by decide +kernel
theorem dL_round_10 : decode cL_round 10 = .ok (.goto 11, 3) := by decide +kernel
theorem dL_round_13 : decode cL_round 13 = .ok (.astore 4, 2) := by decide +kernel
theorem dL_round_15 : decode cL_round 15 = .ok (.iconst 1, 1) := by decide +kernel
theorem dL_round_16 : decode cL_round 16 = .ok (.ireturn, 1) := by decide +kernel
theorem dL_round_17 : decode cL_round 17 = .ok (.astore 4, 2) := by decide +kernel
theorem dL_round_19 : decode cL_round 19 = .ok (.iconst 2, 1) := by decide +kernel
theorem dL_round_20 : decode cL_round 20 = .ok (.ireturn, 1) := by decide +kernel
theorem dL_round_21 : decode cL_round 21 = .ok (.iconst 0, 1) := by decide +kernel
theorem dL_round_22 : decode cL_round 22 = .ok (.ireturn, 1) := by decide +kernel
set_option maxRecDepth 20000 in
theorem ggL_fill_X2_fill : GoodIn wsL_fill wsX2_fill := goodIn_ca (goodIn_ca (goodIn_r _ [7, 8, 9, 10, 11, 12, 13, 14, 15, 16, 17, 6, 18, 19, 20, 21, 22, 23, 24, 25, 26, 27, 28, 29, 30, 31, 32, 33, 34, 35, 36, 37, 38, 39, 40, 41, 42, 43, 44, 45, 46, 47, 48, 49, 50, 51, 52, 53, 54, 55, 56, 57, 58, 59, 60, 61, 62] (by decide +kernel) (by decide +kernel)) (goodIn_sub (fun _ h => List.mem_cons_of_mem _ (List.mem_append_left _ (List.mem_append_right _ h))) (by decide +kernel))) (goodIn_sub (fun _ h => List.mem_cons_of_mem _ (List.mem_append_right _ h)) (by decide +kernel))
set_option maxRecDepth 20000 in
theorem gL_fill_X2_fill : GoodIn wsL_fill (wsV RL 39 RX2 yX2_fill wsX2_fill) := goodIn_app (goodIn_of _ (by decide +kernel)) ggL_fill_X2_fill
theorem dL_fill_0 : decode cL_fill 0 = .ok (.aload_n 3, 1) := by decide +kernel
theorem dL_fill_1 : decode cL_fill 1 = .ok (.iconst 0, 1) := by decide +kernel
theorem dL_fill_2 : decode cL_fill 2 = .ok (.aload_n 0, 1) := by decide +kernel
theorem dL_fill_3 : decode cL_fill 3 = .ok (.iload_n 1, 1) := by decide +kernel
theorem dL_fill_4 : decode cL_fill 4 = .ok (.iload_n 2, 1) := by decide +kernel
theorem dL_fill_5 : decode cL_fill 5 = .ok (.invokevirtual 39, 3) := by decide +kernel
theorem dL_fill_8 : decode cL_fill 8 = .ok (.i2l, 1) := by decide +kernel
theorem dL_fill_9 : decode cL_fill 9 = .ok (.lastore, 1) := by decide +kernel
theorem dL_fill_10 : decode cL_fill 10 = .ok (.goto 11, 3) := by decide +kernel
theorem dL_fill_13 : decode cL_fill 13 = .ok (.astore 4, 2) := by decide +kernel
theorem dL_fill_15 : decode cL_fill 15 = .ok (.iconst 1, 1) := by decide +kernel
theorem dL_fill_16 : decode cL_fill 16 = .ok (.ireturn, 1) := by decide +kernel
theorem dL_fill_17 : decode cL_fill 17 = .ok (.astore 4, 2) := by decide +kernel
theorem dL_fill_19 : decode cL_fill 19 = .ok (.iconst 2, 1) := by decide +kernel
theorem dL_fill_20 : decode cL_fill 20 = .ok (.ireturn, 1) := by decide +kernel
theorem dL_fill_21 : decode cL_fill 21 = .ok (.iconst 0, 1) := by decide +kernel
theorem dL_fill_22 : decode cL_fill 22 = .ok (.ireturn, 1) := by decide +kernel
set_option maxRecDepth 20000 in
theorem ggL_way_X2_way : GoodIn wsL_way wsX2_way := goodIn_ca (goodIn_r _ [6, 7, 8, 9, 10, 11, 12, 5, 13, 14, 15, 16, 17, 18, 19, 20, 21, 22, 23, 24, 25, 26, 27, 28, 29, 30, 31, 32, 33, 34, 35, 36] (by decide +kernel) (by decide +kernel)) (goodIn_sub (fun _ h => List.mem_cons_of_mem _ (List.mem_append_right _ h)) (by decide +kernel))
set_option maxRecDepth 20000 in
theorem gL_way_X2_way : GoodIn wsL_way (wsV RL 42 RX2 yX2_way wsX2_way) := goodIn_app (goodIn_of _ (by decide +kernel)) ggL_way_X2_way
theorem dL_way_0 : decode cL_way 0 = .ok (.aload_n 3, 1) := by decide +kernel
theorem dL_way_1 : decode cL_way 1 = .ok (.iconst 0, 1) := by decide +kernel
theorem dL_way_2 : decode cL_way 2 = .ok (.aload_n 0, 1) := by decide +kernel
theorem dL_way_3 : decode cL_way 3 = .ok (.iload_n 1, 1) := by decide +kernel
theorem dL_way_4 : decode cL_way 4 = .ok (.iload_n 2, 1) := by decide +kernel
theorem dL_way_5 : decode cL_way 5 = .ok (.invokevirtual 42, 3) := by decide +kernel
theorem dL_way_8 : decode cL_way 8 = .ok (.i2l, 1) := by decide +kernel
theorem dL_way_9 : decode cL_way 9 = .ok (.lastore, 1) := by decide +kernel
theorem dL_way_10 : decode cL_way 10 = .ok (.goto 7, 3) := by decide +kernel
theorem dL_way_13 : decode cL_way 13 = .ok (.astore 4, 2) := by decide +kernel
theorem dL_way_15 : decode cL_way 15 = .ok (.iconst 1, 1) := by decide +kernel
theorem dL_way_16 : decode cL_way 16 = .ok (.ireturn, 1) := by decide +kernel
theorem dL_way_17 : decode cL_way 17 = .ok (.iconst 0, 1) := by decide +kernel
theorem dL_way_18 : decode cL_way 18 = .ok (.ireturn, 1) := by decide +kernel
set_option maxRecDepth 20000 in
theorem ggL_told_X2_told : GoodIn wsL_told wsX2_told := goodIn_ca (goodIn_r _ [6, 7, 8, 9, 10, 11, 12, 13, 14, 15, 16, 17, 18, 19, 5, 20, 21, 22, 23, 24, 25, 26, 27, 28, 29, 30, 31, 32, 33, 34, 35, 36, 37, 38, 39, 40, 41, 42, 43, 44, 45, 46, 47, 48, 49, 50, 51, 52, 53, 54, 55, 56, 57, 58, 59, 60, 61, 62, 63, 64, 65, 66] (by decide +kernel) (by decide +kernel)) (goodIn_sub (fun _ h => List.mem_cons_of_mem _ (List.mem_append_right _ h)) (by decide +kernel))
set_option maxRecDepth 20000 in
theorem gL_told_X2_told : GoodIn wsL_told (wsV RL 45 RX2 yX2_told wsX2_told) := goodIn_app (goodIn_of _ (by decide +kernel)) ggL_told_X2_told
theorem dL_told_0 : decode cL_told 0 = .ok (.aload_n 3, 1) := by decide +kernel
theorem dL_told_1 : decode cL_told 1 = .ok (.iconst 0, 1) := by decide +kernel
theorem dL_told_2 : decode cL_told 2 = .ok (.aload_n 0, 1) := by decide +kernel
theorem dL_told_3 : decode cL_told 3 = .ok (.iload_n 1, 1) := by decide +kernel
theorem dL_told_4 : decode cL_told 4 = .ok (.iload_n 2, 1) := by decide +kernel
theorem dL_told_5 : decode cL_told 5 = .ok (.invokevirtual 45, 3) := by decide +kernel
theorem dL_told_8 : decode cL_told 8 = .ok (.i2l, 1) := by decide +kernel
theorem dL_told_9 : decode cL_told 9 = .ok (.lastore, 1) := by decide +kernel
theorem dL_told_10 : decode cL_told 10 = .ok (.goto 7, 3) := by decide +kernel
theorem dL_told_13 : decode cL_told 13 = .ok (.astore 4, 2) := by decide +kernel
theorem dL_told_15 : decode cL_told 15 = .ok (.iconst 1, 1) := by decide +kernel
theorem dL_told_16 : decode cL_told 16 = .ok (.ireturn, 1) := by decide +kernel
theorem dL_told_17 : decode cL_told 17 = .ok (.iconst 0, 1) := by decide +kernel
theorem dL_told_18 : decode cL_told 18 = .ok (.ireturn, 1) := by decide +kernel
set_option maxRecDepth 20000 in
theorem ggL_lighter_X2_lighter : GoodIn wsL_lighter wsX2_lighter := goodIn_ca (goodIn_r _ [6, 7, 8, 9, 10, 11, 12, 13, 14, 15, 16, 17, 18, 5, 19, 20, 21, 22, 23, 24, 25, 26, 27, 28, 29, 30, 31, 32, 33, 34, 35, 36, 37, 38, 39, 40, 41, 42, 43, 44, 45, 46, 47, 48, 49, 50, 51, 52, 53, 54, 55, 56, 57, 58] (by decide +kernel) (by decide +kernel)) (goodIn_sub (fun _ h => List.mem_cons_of_mem _ (List.mem_append_right _ h)) (by decide +kernel))
set_option maxRecDepth 20000 in
theorem gL_lighter_X2_lighter : GoodIn wsL_lighter (wsV RL 48 RX2 yX2_lighter wsX2_lighter) := goodIn_app (goodIn_of _ (by decide +kernel)) ggL_lighter_X2_lighter
theorem dL_lighter_0 : decode cL_lighter 0 = .ok (.aload_n 3, 1) := by decide +kernel
theorem dL_lighter_1 : decode cL_lighter 1 = .ok (.iconst 0, 1) := by decide +kernel
theorem dL_lighter_2 : decode cL_lighter 2 = .ok (.aload_n 0, 1) := by decide +kernel
theorem dL_lighter_3 : decode cL_lighter 3 = .ok (.iload_n 1, 1) := by decide +kernel
theorem dL_lighter_4 : decode cL_lighter 4 = .ok (.iload_n 2, 1) := by decide +kernel
theorem dL_lighter_5 : decode cL_lighter 5 = .ok (.invokevirtual 48, 3) := by decide +kernel
theorem dL_lighter_8 : decode cL_lighter 8 = .ok (.i2l, 1) := by decide +kernel
theorem dL_lighter_9 : decode cL_lighter 9 = .ok (.lastore, 1) := by decide +kernel
theorem dL_lighter_10 : decode cL_lighter 10 = .ok (.goto 7, 3) := by decide +kernel
theorem dL_lighter_13 : decode cL_lighter 13 = .ok (.astore 4, 2) := by decide +kernel
theorem dL_lighter_15 : decode cL_lighter 15 = .ok (.iconst 1, 1) := by decide +kernel
theorem dL_lighter_16 : decode cL_lighter 16 = .ok (.ireturn, 1) := by decide +kernel
theorem dL_lighter_17 : decode cL_lighter 17 = .ok (.iconst 0, 1) := by decide +kernel
theorem dL_lighter_18 : decode cL_lighter 18 = .ok (.ireturn, 1) := by decide +kernel
set_option maxRecDepth 20000 in
theorem ggL_burning_X2_burning : GoodIn wsL_burning wsX2_burning := goodIn_ca (goodIn_r _ [6, 7, 8, 9, 10, 11, 12, 5, 13, 14, 15, 16, 17, 18, 19, 20, 21, 22, 23, 24, 25, 26, 27, 28, 29, 30, 31, 32, 33, 34, 35, 36, 37, 38, 39, 40, 41, 42, 43, 44, 45, 46, 47, 48, 49, 50, 51, 52] (by decide +kernel) (by decide +kernel)) (goodIn_sub (fun _ h => List.mem_cons_of_mem _ (List.mem_append_right _ h)) (by decide +kernel))
set_option maxRecDepth 20000 in
theorem gL_burning_X2_burning : GoodIn wsL_burning (wsV RL 51 RX2 yX2_burning wsX2_burning) := goodIn_app (goodIn_of _ (by decide +kernel)) ggL_burning_X2_burning
theorem dL_burning_0 : decode cL_burning 0 = .ok (.aload_n 2, 1) := by decide +kernel
theorem dL_burning_1 : decode cL_burning 1 = .ok (.iconst 0, 1) := by decide +kernel
theorem dL_burning_2 : decode cL_burning 2 = .ok (.aload_n 0, 1) := by decide +kernel
theorem dL_burning_3 : decode cL_burning 3 = .ok (.iload_n 1, 1) := by decide +kernel
theorem dL_burning_4 : decode cL_burning 4 = .ok (.invokevirtual 51, 3) := by decide +kernel
theorem dL_burning_7 : decode cL_burning 7 = .ok (.i2l, 1) := by decide +kernel
theorem dL_burning_8 : decode cL_burning 8 = .ok (.lastore, 1) := by decide +kernel
theorem dL_burning_9 : decode cL_burning 9 = .ok (.goto 6, 3) := by decide +kernel
theorem dL_burning_12 : decode cL_burning 12 = .ok (.astore_n 3, 1) := by decide +kernel
theorem dL_burning_13 : decode cL_burning 13 = .ok (.iconst 1, 1) := by decide +kernel
theorem dL_burning_14 : decode cL_burning 14 = .ok (.ireturn, 1) := by decide +kernel
theorem dL_burning_15 : decode cL_burning 15 = .ok (.iconst 0, 1) := by decide +kernel
theorem dL_burning_16 : decode cL_burning 16 = .ok (.ireturn, 1) := by decide +kernel
set_option maxRecDepth 20000 in
theorem ggL_count_X2_count : GoodIn wsL_count wsX2_count := goodIn_ca (goodIn_r _ [6, 7, 8, 9, 10, 11, 12, 13, 14, 15, 16, 17, 5, 18, 19, 20, 21, 22, 23, 24, 25, 26, 27, 28, 29, 30, 31, 32, 33, 34, 35, 36, 37, 38, 39, 40, 41, 42, 43, 44, 45, 46, 47, 48, 49, 50, 51, 52, 53, 54, 55, 56, 57, 58, 59, 60, 61, 62, 63, 64, 65, 66, 67, 68, 69, 70, 71, 72, 73, 74, 75, 76, 77, 78] (by decide +kernel) (by decide +kernel)) (goodIn_sub (fun _ h => List.mem_cons_of_mem _ (List.mem_append_right _ h)) (by decide +kernel))
set_option maxRecDepth 20000 in
theorem gL_count_X2_count : GoodIn wsL_count (wsV RL 54 RX2 yX2_count wsX2_count) := goodIn_app (goodIn_of _ (by decide +kernel)) ggL_count_X2_count
theorem dL_count_0 : decode cL_count 0 = .ok (.aload_n 2, 1) := by decide +kernel
theorem dL_count_1 : decode cL_count 1 = .ok (.iconst 0, 1) := by decide +kernel
theorem dL_count_2 : decode cL_count 2 = .ok (.aload_n 0, 1) := by decide +kernel
theorem dL_count_3 : decode cL_count 3 = .ok (.iload_n 1, 1) := by decide +kernel
theorem dL_count_4 : decode cL_count 4 = .ok (.invokevirtual 54, 3) := by decide +kernel
theorem dL_count_7 : decode cL_count 7 = .ok (.i2l, 1) := by decide +kernel
theorem dL_count_8 : decode cL_count 8 = .ok (.lastore, 1) := by decide +kernel
theorem dL_count_9 : decode cL_count 9 = .ok (.goto 6, 3) := by decide +kernel
theorem dL_count_12 : decode cL_count 12 = .ok (.astore_n 3, 1) := by decide +kernel
theorem dL_count_13 : decode cL_count 13 = .ok (.iconst 1, 1) := by decide +kernel
theorem dL_count_14 : decode cL_count 14 = .ok (.ireturn, 1) := by decide +kernel
theorem dL_count_15 : decode cL_count 15 = .ok (.iconst 0, 1) := by decide +kernel
theorem dL_count_16 : decode cL_count 16 = .ok (.ireturn, 1) := by decide +kernel
set_option maxRecDepth 20000 in
theorem ggL_pass_X2_pass : GoodIn wsL_pass wsX2_pass := goodIn_ca (goodIn_r _ [6, 7, 8, 9, 10, 5, 11, 12, 13, 14, 15, 16, 17, 18, 19, 20, 21, 22, 23, 24, 25, 26, 27, 28, 29, 30, 31, 32, 33, 34, 35, 36, 37, 38, 39, 40, 41, 42, 43, 44, 45, 46, 47, 48, 49, 50, 51, 52, 53, 54, 55, 56, 57, 58, 59, 60, 61, 62, 63, 64, 65, 66, 67, 68, 69, 70, 71, 72, 73, 74, 75, 76, 77, 78, 79, 80, 81, 82, 83, 84, 85, 86, 87, 88, 89, 90, 91, 92, 93, 94, 95, 96, 97, 98, 99, 100, 101, 102, 103, 104, 105, 106, 107, 108, 109, 110, 111, 112, 113, 114, 115, 116, 117, 118, 119, 120, 121, 122, 123, 124, 125, 126, 127, 128, 129, 130, 131, 132, 133, 134, 135, 136, 137, 138, 139, 140, 141, 142, 143, 144, 145, 146, 147] (by decide +kernel) (by decide +kernel)) (goodIn_sub (fun _ h => List.mem_cons_of_mem _ (List.mem_append_right _ h)) (by decide +kernel))
set_option maxRecDepth 20000 in
theorem gL_pass_X2_pass : GoodIn wsL_pass (wsV RL 57 RX2 yX2_pass wsX2_pass) := goodIn_app (goodIn_of _ (by decide +kernel)) ggL_pass_X2_pass
theorem dL_pass_0 : decode cL_pass 0 = .ok (.aload_n 2, 1) := by decide +kernel
theorem dL_pass_1 : decode cL_pass 1 = .ok (.iconst 0, 1) := by decide +kernel
theorem dL_pass_2 : decode cL_pass 2 = .ok (.aload_n 0, 1) := by decide +kernel
theorem dL_pass_3 : decode cL_pass 3 = .ok (.iload_n 1, 1) := by decide +kernel
theorem dL_pass_4 : decode cL_pass 4 = .ok (.invokevirtual 57, 3) := by decide +kernel
theorem dL_pass_7 : decode cL_pass 7 = .ok (.i2l, 1) := by decide +kernel
theorem dL_pass_8 : decode cL_pass 8 = .ok (.lastore, 1) := by decide +kernel
theorem dL_pass_9 : decode cL_pass 9 = .ok (.goto 6, 3) := by decide +kernel
theorem dL_pass_12 : decode cL_pass 12 = .ok (.astore_n 3, 1) := by decide +kernel
theorem dL_pass_13 : decode cL_pass 13 = .ok (.iconst 1, 1) := by decide +kernel
theorem dL_pass_14 : decode cL_pass 14 = .ok (.ireturn, 1) := by decide +kernel
theorem dL_pass_15 : decode cL_pass 15 = .ok (.iconst 0, 1) := by decide +kernel
theorem dL_pass_16 : decode cL_pass 16 = .ok (.ireturn, 1) := by decide +kernel
set_option maxRecDepth 20000 in
theorem ggL_dawn_X2_dawn : GoodIn wsL_dawn wsX2_dawn := goodIn_ca (goodIn_r _ [6, 7, 8, 9, 10, 11, 12, 13, 14, 15, 16, 17, 18, 19, 20, 21, 22, 23, 24, 25, 26, 27, 28, 29, 30, 31, 32, 33, 34, 35, 36, 37, 38, 39, 40, 41, 42, 43, 44, 45, 46, 47, 48, 49, 50, 51, 52, 53, 54, 55, 56, 57, 58, 59, 60, 61, 62, 63, 64, 65, 66, 67, 68, 69, 70, 71, 72, 73, 74, 75, 76, 77, 78, 79, 80, 81, 82] (by decide +kernel) (by decide +kernel)) (goodIn_sub (fun _ h => List.mem_cons_of_mem _ (List.mem_append_right _ h)) (by decide +kernel))
set_option maxRecDepth 20000 in
theorem gL_dawn_X2_dawn : GoodIn wsL_dawn (wsV RL 60 RX2 yX2_dawn wsX2_dawn) := goodIn_app (goodIn_of _ (by decide +kernel)) ggL_dawn_X2_dawn
theorem dL_dawn_0 : decode cL_dawn 0 = .ok (.aload_n 1, 1) := by decide +kernel
theorem dL_dawn_1 : decode cL_dawn 1 = .ok (.iconst 0, 1) := by decide +kernel
theorem dL_dawn_2 : decode cL_dawn 2 = .ok (.aload_n 0, 1) := by decide +kernel
theorem dL_dawn_3 : decode cL_dawn 3 = .ok (.invokevirtual 60, 3) := by decide +kernel
theorem dL_dawn_6 : decode cL_dawn 6 = .ok (.i2l, 1) := by decide +kernel
theorem dL_dawn_7 : decode cL_dawn 7 = .ok (.lastore, 1) := by decide +kernel
theorem dL_dawn_8 : decode cL_dawn 8 = .ok (.goto 6, 3) := by decide +kernel
theorem dL_dawn_11 : decode cL_dawn 11 = .ok (.astore_n 2, 1) := by decide +kernel
theorem dL_dawn_12 : decode cL_dawn 12 = .ok (.iconst 1, 1) := by decide +kernel
theorem dL_dawn_13 : decode cL_dawn 13 = .ok (.ireturn, 1) := by decide +kernel
theorem dL_dawn_14 : decode cL_dawn 14 = .ok (.iconst 0, 1) := by decide +kernel
theorem dL_dawn_15 : decode cL_dawn 15 = .ok (.ireturn, 1) := by decide +kernel
set_option maxRecDepth 20000 in
theorem ggL_comes_X2_comes : GoodIn wsL_comes wsX2_comes := goodIn_ca (goodIn_r _ [6, 7, 8, 9, 10, 11, 12, 13, 14, 5, 15, 16, 17, 18, 19, 20, 21, 22, 23, 24, 25, 26, 27, 28, 29, 30, 31, 32, 33, 34, 35, 36, 37, 38, 39, 40, 41, 42, 43, 44, 45, 46, 47, 48, 49, 50, 51, 52, 53, 54, 55, 56, 57, 58, 59, 60, 61, 62, 63, 64, 65, 66, 67, 68, 69, 70, 71, 72, 73, 74, 75, 76, 77, 78, 79, 80, 81, 82, 83, 84, 85, 86, 87, 88, 89, 90, 91, 92, 93, 94, 95, 96, 97, 98, 99, 100, 101, 102, 103, 104, 105, 106, 107, 108, 109, 110, 111, 112, 113, 114, 115, 116, 117, 118, 119, 120, 121, 122, 123, 124, 125, 126, 127, 128, 129, 130, 131, 132, 133, 134, 135, 136, 137, 138, 139, 140, 141, 142, 143, 144, 145, 146, 147, 148, 149, 150, 151, 152, 153, 154, 155, 156, 157, 158, 159, 160] (by decide +kernel) (by decide +kernel)) (goodIn_sub (fun _ h => List.mem_cons_of_mem _ (List.mem_append_right _ h)) (by decide +kernel))
set_option maxRecDepth 20000 in
theorem gL_comes_X2_comes : GoodIn wsL_comes (wsV RL 64 RX2 yX2_comes wsX2_comes) := goodIn_app (goodIn_of _ (by decide +kernel)) ggL_comes_X2_comes
theorem dL_comes_0 : decode cL_comes 0 = .ok (.aload_n 2, 1) := by decide +kernel
theorem dL_comes_1 : decode cL_comes 1 = .ok (.iconst 0, 1) := by decide +kernel
theorem dL_comes_2 : decode cL_comes 2 = .ok (.aload_n 0, 1) := by decide +kernel
theorem dL_comes_3 : decode cL_comes 3 = .ok (.iload_n 1, 1) := by decide +kernel
theorem dL_comes_4 : decode cL_comes 4 = .ok (.invokevirtual 64, 3) := by decide +kernel
theorem dL_comes_7 : decode cL_comes 7 = .ok (.i2l, 1) := by decide +kernel
theorem dL_comes_8 : decode cL_comes 8 = .ok (.lastore, 1) := by decide +kernel
theorem dL_comes_9 : decode cL_comes 9 = .ok (.goto 6, 3) := by decide +kernel
theorem dL_comes_12 : decode cL_comes 12 = .ok (.astore_n 3, 1) := by decide +kernel
theorem dL_comes_13 : decode cL_comes 13 = .ok (.iconst 1, 1) := by decide +kernel
theorem dL_comes_14 : decode cL_comes 14 = .ok (.ireturn, 1) := by decide +kernel
theorem dL_comes_15 : decode cL_comes 15 = .ok (.iconst 0, 1) := by decide +kernel
theorem dL_comes_16 : decode cL_comes 16 = .ok (.ireturn, 1) := by decide +kernel
set_option maxRecDepth 20000 in
theorem ggL_needs_X2_needs : GoodIn wsL_needs wsX2_needs := goodIn_ca (goodIn_r _ [6, 7, 8, 9, 10, 11, 12, 13, 14, 15, 5, 16, 17, 18, 19, 20, 21, 22, 23, 24, 25, 26, 27, 28, 29, 30, 31, 32, 33, 34, 35, 36, 37, 38, 39, 40, 41, 42, 43, 44, 45, 46, 47, 48, 49] (by decide +kernel) (by decide +kernel)) (goodIn_sub (fun _ h => List.mem_cons_of_mem _ (List.mem_append_right _ h)) (by decide +kernel))
set_option maxRecDepth 20000 in
theorem gL_needs_X2_needs : GoodIn wsL_needs (wsV RL 67 RX2 yX2_needs wsX2_needs) := goodIn_app (goodIn_of _ (by decide +kernel)) ggL_needs_X2_needs
theorem dL_needs_0 : decode cL_needs 0 = .ok (.aload_n 2, 1) := by decide +kernel
theorem dL_needs_1 : decode cL_needs 1 = .ok (.iconst 0, 1) := by decide +kernel
theorem dL_needs_2 : decode cL_needs 2 = .ok (.aload_n 0, 1) := by decide +kernel
theorem dL_needs_3 : decode cL_needs 3 = .ok (.iload_n 1, 1) := by decide +kernel
theorem dL_needs_4 : decode cL_needs 4 = .ok (.invokevirtual 67, 3) := by decide +kernel
theorem dL_needs_7 : decode cL_needs 7 = .ok (.i2l, 1) := by decide +kernel
theorem dL_needs_8 : decode cL_needs 8 = .ok (.lastore, 1) := by decide +kernel
theorem dL_needs_9 : decode cL_needs 9 = .ok (.goto 6, 3) := by decide +kernel
theorem dL_needs_12 : decode cL_needs 12 = .ok (.astore_n 3, 1) := by decide +kernel
theorem dL_needs_13 : decode cL_needs 13 = .ok (.iconst 1, 1) := by decide +kernel
theorem dL_needs_14 : decode cL_needs 14 = .ok (.ireturn, 1) := by decide +kernel
theorem dL_needs_15 : decode cL_needs 15 = .ok (.iconst 0, 1) := by decide +kernel
theorem dL_needs_16 : decode cL_needs 16 = .ok (.ireturn, 1) := by decide +kernel
set_option maxRecDepth 20000 in
theorem ggL_foresee_X2_foresee : GoodIn wsL_foresee wsX2_foresee := goodIn_ca (goodIn_ca (goodIn_r _ [7, 8, 9, 10, 11, 12, 13, 6, 14, 15, 16, 17, 18, 19, 20, 21, 22, 23, 24, 25, 26, 27, 28, 29, 30, 31, 32, 33, 34, 35, 36, 37, 38, 39, 40, 41, 42, 43, 44, 45, 46, 47, 48, 49, 50, 51, 52, 53, 54, 55, 56, 57, 58, 59, 60, 61, 62, 63, 64, 65, 66, 67, 68, 69, 70, 71, 72, 73, 74, 75, 76, 77, 78, 79, 80, 81, 82, 83, 84, 85, 86, 87, 88, 89, 90, 91, 92, 93, 94, 95, 96, 97, 98, 99, 100, 101, 102, 103, 104, 105, 106, 107, 108, 109, 110, 111, 112, 113, 114, 115, 116, 117, 118, 119, 120, 121, 122, 123, 124, 125, 126, 127, 128, 129, 130, 131, 132, 133, 134, 135, 136, 137, 138, 139, 140, 141, 142, 143, 144, 145, 146, 147, 148, 149, 150, 151, 152, 153, 154, 155, 156, 157, 158, 159, 160, 161, 162, 163, 164, 165, 166, 167, 168, 169, 170, 171, 172, 173, 174, 175, 176, 177] (by decide +kernel) (by decide +kernel)) (goodIn_sub (fun _ h => List.mem_cons_of_mem _ (List.mem_append_left _ (List.mem_append_right _ h))) (by decide +kernel))) (goodIn_sub (fun _ h => List.mem_cons_of_mem _ (List.mem_append_right _ h)) (by decide +kernel))
set_option maxRecDepth 20000 in
theorem gL_foresee_X2_foresee : GoodIn wsL_foresee (wsV RL 70 RX2 yX2_foresee wsX2_foresee) := goodIn_app (goodIn_of _ (by decide +kernel)) ggL_foresee_X2_foresee
theorem dL_foresee_0 : decode cL_foresee 0 = .ok (.aload_n 3, 1) := by decide +kernel
theorem dL_foresee_1 : decode cL_foresee 1 = .ok (.iconst 0, 1) := by decide +kernel
theorem dL_foresee_2 : decode cL_foresee 2 = .ok (.aload_n 0, 1) := by decide +kernel
theorem dL_foresee_3 : decode cL_foresee 3 = .ok (.iload_n 1, 1) := by decide +kernel
theorem dL_foresee_4 : decode cL_foresee 4 = .ok (.iload_n 2, 1) := by decide +kernel
theorem dL_foresee_5 : decode cL_foresee 5 = .ok (.invokevirtual 70, 3) := by decide +kernel
theorem dL_foresee_8 : decode cL_foresee 8 = .ok (.i2l, 1) := by decide +kernel
theorem dL_foresee_9 : decode cL_foresee 9 = .ok (.lastore, 1) := by decide +kernel
theorem dL_foresee_10 : decode cL_foresee 10 = .ok (.goto 11, 3) := by decide +kernel
theorem dL_foresee_13 : decode cL_foresee 13 = .ok (.astore 4, 2) := by decide +kernel
theorem dL_foresee_15 : decode cL_foresee 15 = .ok (.iconst 1, 1) := by decide +kernel
theorem dL_foresee_16 : decode cL_foresee 16 = .ok (.ireturn, 1) := by decide +kernel
theorem dL_foresee_17 : decode cL_foresee 17 = .ok (.astore 4, 2) := by decide +kernel
theorem dL_foresee_19 : decode cL_foresee 19 = .ok (.iconst 2, 1) := by decide +kernel
theorem dL_foresee_20 : decode cL_foresee 20 = .ok (.ireturn, 1) := by decide +kernel
theorem dL_foresee_21 : decode cL_foresee 21 = .ok (.iconst 0, 1) := by decide +kernel
theorem dL_foresee_22 : decode cL_foresee 22 = .ok (.ireturn, 1) := by decide +kernel
