set_option maxRecDepth 20000 in
theorem ggX2_init_X1_init : GoodIn wsX2_init wsX1_init := goodIn_r _ [16, 17, 2, 3, 13, 18, 19, 20, 21, 22, 23, 24, 25, 26, 27, 28, 29, 30, 31, 49, 50, 51, 52, 53, 54, 55, 56, 57, 58, 59, 60, 61, 62, 63, 64, 65] (by decide +kernel) (by decide +kernel)
set_option maxRecDepth 20000 in
theorem gX2_init_X1_init_n11 : GoodIn wsX2_init (wsX1_init) := ggX2_init_X1_init
set_option maxRecDepth 20000 in
theorem ggX2_init_X0_init : GoodIn wsX2_init wsX0_init := goodIn_r _ [33, 34, 2, 3, 13, 35, 36, 37, 38, 39, 40, 41, 42, 43, 44, 45, 46, 47, 48, 70, 71, 72, 73, 74, 75, 76, 77, 78, 79, 80, 81, 82, 83, 84, 85] (by decide +kernel) (by decide +kernel)
set_option maxRecDepth 20000 in
theorem gX2_init_X0_init_n18 : GoodIn wsX2_init (wsX0_init) := ggX2_init_X0_init
theorem dX2_init_0 : decode cX2_init 0 = .ok (.aload_n 0, 1) := by decide +kernel
theorem dX2_init_1 : decode cX2_init 1 = .ok (.invokespecial 3, 3) := by decide +kernel
theorem dX2_init_4 : decode cX2_init 4 = .ok (.aload_n 0, 1) := by decide +kernel
theorem dX2_init_5 : decode cX2_init 5 = .ok (.new 9, 3) := by decide +kernel
theorem dX2_init_8 : decode cX2_init 8 = .ok (.dup, 1) := by decide +kernel
theorem dX2_init_9 : decode cX2_init 9 = .ok (.invokespecial 11, 3) := by decide +kernel
theorem dX2_init_12 : decode cX2_init 12 = .ok (.putfield 12, 3) := by decide +kernel
theorem dX2_init_15 : decode cX2_init 15 = .ok (.aload_n 0, 1) := by decide +kernel
theorem dX2_init_16 : decode cX2_init 16 = .ok (.new 16, 3) := by decide +kernel
theorem dX2_init_19 : decode cX2_init 19 = .ok (.dup, 1) := by decide +kernel
theorem dX2_init_20 : decode cX2_init 20 = .ok (.invokespecial 18, 3) := by decide +kernel
theorem dX2_init_23 : decode cX2_init 23 = .ok (.putfield 19, 3) := by decide +kernel
theorem dX2_init_26 : decode cX2_init 26 = .ok (.aload_n 0, 1) := by decide +kernel
theorem dX2_init_27 : decode cX2_init 27 = .ok (.new 16, 3) := by decide +kernel
theorem dX2_init_30 : decode cX2_init 30 = .ok (.dup, 1) := by decide +kernel
theorem dX2_init_31 : decode cX2_init 31 = .ok (.invokespecial 18, 3) := by decide +kernel
theorem dX2_init_34 : decode cX2_init 34 = .ok (.putfield 23, 3) := by decide +kernel
theorem dX2_init_37 : decode cX2_init 37 = .ok (.aload_n 0, 1) := by decide +kernel
theorem dX2_init_38 : decode cX2_init 38 = .ok (.bipush 18, 2) := by decide +kernel
theorem dX2_init_40 : decode cX2_init 40 = .ok (.newarray .int, 2) := by decide +kernel
theorem dX2_init_42 : decode cX2_init 42 = .ok (.putfield 26, 3) := by decide +kernel
theorem dX2_init_45 : decode cX2_init 45 = .ok (.return_, 1) := by decide +kernel
set_option maxRecDepth 20000 in
theorem ggX2_corner_X2_requireRange : GoodIn wsX2_corner wsX2_requireRange := goodIn_ca (goodIn_r _ [6, 7, 8] (by decide +kernel) (by decide +kernel)) (goodIn_sub (fun _ h => List.mem_cons_of_mem _ (List.mem_append_left _ (List.mem_append_right _ h))) (by decide +kernel))
set_option maxRecDepth 20000 in
theorem gX2_corner_X2_requireRange : GoodIn wsX2_corner (va_wsS RX2 30 yX2_requireRange wsX2_requireRange) := goodIn_app (goodIn_of _ (by decide +kernel)) ggX2_corner_X2_requireRange
set_option maxRecDepth 20000 in
theorem ggX2_corner_X2_requireRoom : GoodIn wsX2_corner wsX2_requireRoom := goodIn_ca (goodIn_r _ [11, 12, 13] (by decide +kernel) (by decide +kernel)) (goodIn_sub (fun _ h => List.mem_cons_of_mem _ (List.mem_append_right _ h)) (by decide +kernel))
set_option maxRecDepth 20000 in
theorem gX2_corner_X2_requireRoom : GoodIn wsX2_corner (va_wsS RX2 38 yX2_requireRoom wsX2_requireRoom) := goodIn_app (goodIn_of _ (by decide +kernel)) ggX2_corner_X2_requireRoom
set_option maxRecDepth 20000 in
theorem ggX2_corner_X1_addCorner : GoodIn wsX2_corner wsX1_addCorner := goodIn_r _ [18, 19, 20, 21, 22, 27, 28, 29, 30, 31, 32, 33, 34, 35, 36, 37, 38, 39, 40, 41, 42, 43] (by decide +kernel) (by decide +kernel)
set_option maxRecDepth 20000 in
theorem gX2_corner_X1_addCorner : GoodIn wsX2_corner (wsV RX2 42 RX1 yX1_addCorner wsX1_addCorner) := goodIn_app (goodIn_of _ (by decide +kernel)) ggX2_corner_X1_addCorner
theorem dX2_corner_0 : decode cX2_corner 0 = .ok (.iload_n 1, 1) := by decide +kernel
theorem dX2_corner_1 : decode cX2_corner 1 = .ok (.iconst 0, 1) := by decide +kernel
theorem dX2_corner_2 : decode cX2_corner 2 = .ok (.bipush 30, 2) := by decide +kernel
theorem dX2_corner_4 : decode cX2_corner 4 = .ok (.invokestatic 30, 3) := by decide +kernel
theorem dX2_corner_7 : decode cX2_corner 7 = .ok (.aload_n 0, 1) := by decide +kernel
theorem dX2_corner_8 : decode cX2_corner 8 = .ok (.getfield 12, 3) := by decide +kernel
theorem dX2_corner_11 : decode cX2_corner 11 = .ok (.getfield 34, 3) := by decide +kernel
theorem dX2_corner_14 : decode cX2_corner 14 = .ok (.bipush 12, 2) := by decide +kernel
theorem dX2_corner_16 : decode cX2_corner 16 = .ok (.invokestatic 38, 3) := by decide +kernel
theorem dX2_corner_19 : decode cX2_corner 19 = .ok (.aload_n 0, 1) := by decide +kernel
theorem dX2_corner_20 : decode cX2_corner 20 = .ok (.getfield 12, 3) := by decide +kernel
theorem dX2_corner_23 : decode cX2_corner 23 = .ok (.iload_n 1, 1) := by decide +kernel
theorem dX2_corner_24 : decode cX2_corner 24 = .ok (.invokevirtual 42, 3) := by decide +kernel
theorem dX2_corner_27 : decode cX2_corner 27 = .ok (.ireturn, 1) := by decide +kernel
set_option maxRecDepth 20000 in
theorem ggX2_street_X2_requireIndex : GoodIn wsX2_street wsX2_requireIndex := goodIn_ca (goodIn_r _ [9, 10, 11] (by decide +kernel) (by decide +kernel)) (goodIn_sub (fun _ h => List.mem_cons_of_mem _ (List.mem_append_left _ (List.mem_append_right _ h))) (by decide +kernel))
set_option maxRecDepth 20000 in
theorem gX2_street_X2_requireIndex : GoodIn wsX2_street (va_wsS RX2 46 yX2_requireIndex wsX2_requireIndex) := goodIn_app (goodIn_of _ (by decide +kernel)) ggX2_street_X2_requireIndex
set_option maxRecDepth 20000 in
theorem ggX2_street_X2_requireRange : GoodIn wsX2_street wsX2_requireRange := goodIn_ca (goodIn_r _ [14, 1, 2] (by decide +kernel) (by decide +kernel)) (goodIn_sub (fun _ h => List.mem_cons_of_mem _ (List.mem_append_left _ (List.mem_append_left _ (List.mem_append_right _ h)))) (by decide +kernel))
set_option maxRecDepth 20000 in
theorem gX2_street_X2_requireRange : GoodIn wsX2_street (va_wsS RX2 30 yX2_requireRange wsX2_requireRange) := goodIn_app (goodIn_of _ (by decide +kernel)) ggX2_street_X2_requireRange
set_option maxRecDepth 20000 in
theorem ggX2_street_X2_requireRoom : GoodIn wsX2_street wsX2_requireRoom := goodIn_ca (goodIn_r _ [17, 18, 19] (by decide +kernel) (by decide +kernel)) (goodIn_sub (fun _ h => List.mem_cons_of_mem _ (List.mem_append_right _ h)) (by decide +kernel))
set_option maxRecDepth 20000 in
theorem gX2_street_X2_requireRoom : GoodIn wsX2_street (va_wsS RX2 38 yX2_requireRoom wsX2_requireRoom) := goodIn_app (goodIn_of _ (by decide +kernel)) ggX2_street_X2_requireRoom
set_option maxRecDepth 20000 in
theorem ggX2_street_X1_addStreet : GoodIn wsX2_street wsX1_addStreet := goodIn_r _ [24, 25, 26, 27, 28, 29, 30, 31, 23, 32, 33, 34, 35, 36, 37, 38, 39, 40, 41, 42, 43, 44, 45, 46, 51, 52, 53, 54, 55, 56, 57, 58, 59, 60, 61, 62, 63, 64, 65, 66, 67] (by decide +kernel) (by decide +kernel)
set_option maxRecDepth 20000 in
theorem gX2_street_X1_addStreet : GoodIn wsX2_street (wsV RX2 59 RX1 yX1_addStreet wsX1_addStreet) := goodIn_app (goodIn_of _ (by decide +kernel)) ggX2_street_X1_addStreet
theorem dX2_street_0 : decode cX2_street 0 = .ok (.iload_n 1, 1) := by decide +kernel
theorem dX2_street_1 : decode cX2_street 1 = .ok (.aload_n 0, 1) := by decide +kernel
theorem dX2_street_2 : decode cX2_street 2 = .ok (.getfield 12, 3) := by decide +kernel
theorem dX2_street_5 : decode cX2_street 5 = .ok (.getfield 34, 3) := by decide +kernel
theorem dX2_street_8 : decode cX2_street 8 = .ok (.invokestatic 46, 3) := by decide +kernel
theorem dX2_street_11 : decode cX2_street 11 = .ok (.iload_n 2, 1) := by decide +kernel
theorem dX2_street_12 : decode cX2_street 12 = .ok (.aload_n 0, 1) := by decide +kernel
theorem dX2_street_13 : decode cX2_street 13 = .ok (.getfield 12, 3) := by decide +kernel
theorem dX2_street_16 : decode cX2_street 16 = .ok (.getfield 34, 3) := by decide +kernel
theorem dX2_street_19 : decode cX2_street 19 = .ok (.invokestatic 46, 3) := by decide +kernel
theorem dX2_street_22 : decode cX2_street 22 = .ok (.iload_n 1, 1) := by decide +kernel
theorem dX2_street_23 : decode cX2_street 23 = .ok (.iload_n 2, 1) := by decide +kernel
theorem dX2_street_24 : decode cX2_street 24 = .ok (.if_icmp .ne 13, 3) := by decide +kernel
theorem dX2_street_27 : decode cX2_street 27 = .ok (.new 49, 3) := by decide +kernel
theorem dX2_street_30 : decode cX2_street 30 = .ok (.dup, 1) := by decide +kernel
theorem dX2_street_31 : decode cX2_street 31 = .ok (.ldc 51, 2) := by decide +kernel
theorem dX2_street_33 : decode cX2_street 33 = .ok (.invokespecial 53, 3) := by decide +kernel
theorem dX2_street_36 : decode cX2_street 36 = .ok (.athrow, 1) := by decide +kernel
theorem dX2_street_37 : decode cX2_street 37 = .ok (.iload_n 3, 1) := by decide +kernel
theorem dX2_street_38 : decode cX2_street 38 = .ok (.iconst 1, 1) := by decide +kernel
theorem dX2_street_39 : decode cX2_street 39 = .ok (.bipush 9, 2) := by decide +kernel
theorem dX2_street_41 : decode cX2_street 41 = .ok (.invokestatic 30, 3) := by decide +kernel
theorem dX2_street_44 : decode cX2_street 44 = .ok (.aload_n 0, 1) := by decide +kernel
theorem dX2_street_45 : decode cX2_street 45 = .ok (.getfield 12, 3) := by decide +kernel
theorem dX2_street_48 : decode cX2_street 48 = .ok (.getfield 56, 3) := by decide +kernel
theorem dX2_street_51 : decode cX2_street 51 = .ok (.bipush 18, 2) := by decide +kernel
theorem dX2_street_53 : decode cX2_street 53 = .ok (.invokestatic 38, 3) := by decide +kernel
theorem dX2_street_56 : decode cX2_street 56 = .ok (.aload_n 0, 1) := by decide +kernel
theorem dX2_street_57 : decode cX2_street 57 = .ok (.getfield 12, 3) := by decide +kernel
theorem dX2_street_60 : decode cX2_street 60 = .ok (.iload_n 1, 1) := by decide +kernel
theorem dX2_street_61 : decode cX2_street 61 = .ok (.iload_n 2, 1) := by decide +kernel
theorem dX2_street_62 : decode cX2_street 62 = .ok (.iload_n 3, 1) := by decide +kernel
theorem dX2_street_63 : decode cX2_street 63 = .ok (.invokevirtual 59, 3) := by decide +kernel
theorem dX2_street_66 : decode cX2_street 66 = .ok (.ireturn, 1) := by decide +kernel
set_option maxRecDepth 20000 in
theorem ggX2_lamp_X2_requireIndex : GoodIn wsX2_lamp wsX2_requireIndex := goodIn_ca (goodIn_r _ [7, 8, 9] (by decide +kernel) (by decide +kernel)) (goodIn_sub (fun _ h => List.mem_cons_of_mem _ (List.mem_append_left _ (List.mem_append_left _ (List.mem_append_right _ h)))) (by decide +kernel))
set_option maxRecDepth 20000 in
theorem gX2_lamp_X2_requireIndex : GoodIn wsX2_lamp (va_wsS RX2 46 yX2_requireIndex wsX2_requireIndex) := goodIn_app (goodIn_of _ (by decide +kernel)) ggX2_lamp_X2_requireIndex
set_option maxRecDepth 20000 in
theorem ggX2_lamp_X2_requireRange : GoodIn wsX2_lamp wsX2_requireRange := goodIn_ca (goodIn_r _ [12, 13, 14] (by decide +kernel) (by decide +kernel)) (goodIn_sub (fun _ h => List.mem_cons_of_mem _ (List.mem_append_left _ (List.mem_append_right _ h))) (by decide +kernel))
set_option maxRecDepth 20000 in
theorem gX2_lamp_X2_requireRange : GoodIn wsX2_lamp (va_wsS RX2 30 yX2_requireRange wsX2_requireRange) := goodIn_app (goodIn_of _ (by decide +kernel)) ggX2_lamp_X2_requireRange
set_option maxRecDepth 20000 in
theorem ggX2_lamp_X2_requireRoom : GoodIn wsX2_lamp wsX2_requireRoom := goodIn_ca (goodIn_r _ [17, 18, 19] (by decide +kernel) (by decide +kernel)) (goodIn_sub (fun _ h => List.mem_cons_of_mem _ (List.mem_append_right _ h)) (by decide +kernel))
set_option maxRecDepth 20000 in
theorem gX2_lamp_X2_requireRoom : GoodIn wsX2_lamp (va_wsS RX2 38 yX2_requireRoom wsX2_requireRoom) := goodIn_app (goodIn_of _ (by decide +kernel)) ggX2_lamp_X2_requireRoom
set_option maxRecDepth 20000 in
theorem ggX2_lamp_X1_addLamp : GoodIn wsX2_lamp wsX1_addLamp := goodIn_r _ [24, 25, 26, 27, 32, 33, 34, 35, 36, 37, 38, 39, 40, 41, 42, 43, 44, 45, 46, 47, 48] (by decide +kernel) (by decide +kernel)
set_option maxRecDepth 20000 in
theorem gX2_lamp_X1_addLamp : GoodIn wsX2_lamp (wsV RX2 66 RX1 yX1_addLamp wsX1_addLamp) := goodIn_app (goodIn_of _ (by decide +kernel)) ggX2_lamp_X1_addLamp
theorem dX2_lamp_0 : decode cX2_lamp 0 = .ok (.iload_n 1, 1) := by decide +kernel
theorem dX2_lamp_1 : decode cX2_lamp 1 = .ok (.aload_n 0, 1) := by decide +kernel
theorem dX2_lamp_2 : decode cX2_lamp 2 = .ok (.getfield 12, 3) := by decide +kernel
theorem dX2_lamp_5 : decode cX2_lamp 5 = .ok (.getfield 56, 3) := by decide +kernel
theorem dX2_lamp_8 : decode cX2_lamp 8 = .ok (.invokestatic 46, 3) := by decide +kernel
theorem dX2_lamp_11 : decode cX2_lamp 11 = .ok (.iload_n 2, 1) := by decide +kernel
theorem dX2_lamp_12 : decode cX2_lamp 12 = .ok (.iconst 2, 1) := by decide +kernel
theorem dX2_lamp_13 : decode cX2_lamp 13 = .ok (.bipush 9, 2) := by decide +kernel
theorem dX2_lamp_15 : decode cX2_lamp 15 = .ok (.invokestatic 30, 3) := by decide +kernel
theorem dX2_lamp_18 : decode cX2_lamp 18 = .ok (.aload_n 0, 1) := by decide +kernel
theorem dX2_lamp_19 : decode cX2_lamp 19 = .ok (.getfield 12, 3) := by decide +kernel
theorem dX2_lamp_22 : decode cX2_lamp 22 = .ok (.getfield 63, 3) := by decide +kernel
theorem dX2_lamp_25 : decode cX2_lamp 25 = .ok (.bipush 20, 2) := by decide +kernel
theorem dX2_lamp_27 : decode cX2_lamp 27 = .ok (.invokestatic 38, 3) := by decide +kernel
theorem dX2_lamp_30 : decode cX2_lamp 30 = .ok (.aload_n 0, 1) := by decide +kernel
theorem dX2_lamp_31 : decode cX2_lamp 31 = .ok (.getfield 12, 3) := by decide +kernel
theorem dX2_lamp_34 : decode cX2_lamp 34 = .ok (.iload_n 1, 1) := by decide +kernel
theorem dX2_lamp_35 : decode cX2_lamp 35 = .ok (.iload_n 2, 1) := by decide +kernel
theorem dX2_lamp_36 : decode cX2_lamp 36 = .ok (.invokevirtual 66, 3) := by decide +kernel
theorem dX2_lamp_39 : decode cX2_lamp 39 = .ok (.ireturn, 1) := by decide +kernel
set_option maxRecDepth 20000 in
theorem ggX2_lid_X2_requireIndex : GoodIn wsX2_lid wsX2_requireIndex := goodIn_ca (goodIn_r _ [7, 8, 9] (by decide +kernel) (by decide +kernel)) (goodIn_sub (fun _ h => List.mem_cons_of_mem _ (List.mem_append_left _ (List.mem_append_right _ h))) (by decide +kernel))
set_option maxRecDepth 20000 in
theorem gX2_lid_X2_requireIndex : GoodIn wsX2_lid (va_wsS RX2 46 yX2_requireIndex wsX2_requireIndex) := goodIn_app (goodIn_of _ (by decide +kernel)) ggX2_lid_X2_requireIndex
set_option maxRecDepth 20000 in
theorem ggX2_lid_X2_requireRange : GoodIn wsX2_lid wsX2_requireRange := goodIn_ca (goodIn_r _ [12, 13, 14] (by decide +kernel) (by decide +kernel)) (goodIn_sub (fun _ h => List.mem_cons_of_mem _ (List.mem_append_right _ h)) (by decide +kernel))
set_option maxRecDepth 20000 in
theorem gX2_lid_X2_requireRange : GoodIn wsX2_lid (va_wsS RX2 30 yX2_requireRange wsX2_requireRange) := goodIn_app (goodIn_of _ (by decide +kernel)) ggX2_lid_X2_requireRange
theorem dX2_lid_0 : decode cX2_lid 0 = .ok (.iload_n 1, 1) := by decide +kernel
theorem dX2_lid_1 : decode cX2_lid 1 = .ok (.aload_n 0, 1) := by decide +kernel
theorem dX2_lid_2 : decode cX2_lid 2 = .ok (.getfield 12, 3) := by decide +kernel
theorem dX2_lid_5 : decode cX2_lid 5 = .ok (.getfield 63, 3) := by decide +kernel
theorem dX2_lid_8 : decode cX2_lid 8 = .ok (.invokestatic 46, 3) := by decide +kernel
theorem dX2_lid_11 : decode cX2_lid 11 = .ok (.iload_n 2, 1) := by decide +kernel
theorem dX2_lid_12 : decode cX2_lid 12 = .ok (.iconst 0, 1) := by decide +kernel
theorem dX2_lid_13 : decode cX2_lid 13 = .ok (.bipush 9, 2) := by decide +kernel
theorem dX2_lid_15 : decode cX2_lid 15 = .ok (.invokestatic 30, 3) := by decide +kernel
theorem dX2_lid_18 : decode cX2_lid 18 = .ok (.aload_n 0, 1) := by decide +kernel
theorem dX2_lid_19 : decode cX2_lid 19 = .ok (.getfield 12, 3) := by decide +kernel
theorem dX2_lid_22 : decode cX2_lid 22 = .ok (.getfield 70, 3) := by decide +kernel
theorem dX2_lid_25 : decode cX2_lid 25 = .ok (.iload_n 1, 1) := by decide +kernel
theorem dX2_lid_26 : decode cX2_lid 26 = .ok (.iaload, 1) := by decide +kernel
theorem dX2_lid_27 : decode cX2_lid 27 = .ok (.istore_n 3, 1) := by decide +kernel
theorem dX2_lid_28 : decode cX2_lid 28 = .ok (.aload_n 0, 1) := by decide +kernel
theorem dX2_lid_29 : decode cX2_lid 29 = .ok (.getfield 12, 3) := by decide +kernel
theorem dX2_lid_32 : decode cX2_lid 32 = .ok (.getfield 70, 3) := by decide +kernel
theorem dX2_lid_35 : decode cX2_lid 35 = .ok (.iload_n 1, 1) := by decide +kernel
theorem dX2_lid_36 : decode cX2_lid 36 = .ok (.iload_n 2, 1) := by decide +kernel
theorem dX2_lid_37 : decode cX2_lid 37 = .ok (.iastore, 1) := by decide +kernel
theorem dX2_lid_38 : decode cX2_lid 38 = .ok (.iload_n 3, 1) := by decide +kernel
theorem dX2_lid_39 : decode cX2_lid 39 = .ok (.ireturn, 1) := by decide +kernel
set_option maxRecDepth 20000 in
theorem ggX2_setWind_X2_requireIndex : GoodIn wsX2_setWind wsX2_requireIndex := goodIn_ca (goodIn_r _ [6, 7, 8] (by decide +kernel) (by decide +kernel)) (goodIn_sub (fun _ h => List.mem_cons_of_mem _ (List.mem_append_left _ (List.mem_append_right _ h))) (by decide +kernel))
set_option maxRecDepth 20000 in
theorem gX2_setWind_X2_requireIndex : GoodIn wsX2_setWind (va_wsS RX2 46 yX2_requireIndex wsX2_requireIndex) := goodIn_app (goodIn_of _ (by decide +kernel)) ggX2_setWind_X2_requireIndex
set_option maxRecDepth 20000 in
theorem ggX2_setWind_X2_requireRange : GoodIn wsX2_setWind wsX2_requireRange := goodIn_ca (goodIn_r _ [11, 12, 13] (by decide +kernel) (by decide +kernel)) (goodIn_sub (fun _ h => List.mem_cons_of_mem _ (List.mem_append_right _ h)) (by decide +kernel))
set_option maxRecDepth 20000 in
theorem gX2_setWind_X2_requireRange : GoodIn wsX2_setWind (va_wsS RX2 30 yX2_requireRange wsX2_requireRange) := goodIn_app (goodIn_of _ (by decide +kernel)) ggX2_setWind_X2_requireRange
theorem dX2_setWind_0 : decode cX2_setWind 0 = .ok (.iload_n 1, 1) := by decide +kernel
theorem dX2_setWind_1 : decode cX2_setWind 1 = .ok (.bipush 10, 2) := by decide +kernel
theorem dX2_setWind_3 : decode cX2_setWind 3 = .ok (.invokestatic 46, 3) := by decide +kernel
theorem dX2_setWind_6 : decode cX2_setWind 6 = .ok (.iload_n 2, 1) := by decide +kernel
theorem dX2_setWind_7 : decode cX2_setWind 7 = .ok (.iconst 0, 1) := by decide +kernel
theorem dX2_setWind_8 : decode cX2_setWind 8 = .ok (.bipush 9, 2) := by decide +kernel
theorem dX2_setWind_10 : decode cX2_setWind 10 = .ok (.invokestatic 30, 3) := by decide +kernel
theorem dX2_setWind_13 : decode cX2_setWind 13 = .ok (.aload_n 0, 1) := by decide +kernel
theorem dX2_setWind_14 : decode cX2_setWind 14 = .ok (.getfield 12, 3) := by decide +kernel
theorem dX2_setWind_17 : decode cX2_setWind 17 = .ok (.getfield 73, 3) := by decide +kernel
theorem dX2_setWind_20 : decode cX2_setWind 20 = .ok (.iload_n 1, 1) := by decide +kernel
theorem dX2_setWind_21 : decode cX2_setWind 21 = .ok (.iaload, 1) := by decide +kernel
theorem dX2_setWind_22 : decode cX2_setWind 22 = .ok (.istore_n 3, 1) := by decide +kernel
theorem dX2_setWind_23 : decode cX2_setWind 23 = .ok (.aload_n 0, 1) := by decide +kernel
theorem dX2_setWind_24 : decode cX2_setWind 24 = .ok (.getfield 12, 3) := by decide +kernel
theorem dX2_setWind_27 : decode cX2_setWind 27 = .ok (.getfield 73, 3) := by decide +kernel
theorem dX2_setWind_30 : decode cX2_setWind 30 = .ok (.iload_n 1, 1) := by decide +kernel
theorem dX2_setWind_31 : decode cX2_setWind 31 = .ok (.iload_n 2, 1) := by decide +kernel
theorem dX2_setWind_32 : decode cX2_setWind 32 = .ok (.iastore, 1) := by decide +kernel
theorem dX2_setWind_33 : decode cX2_setWind 33 = .ok (.iload_n 3, 1) := by decide +kernel
theorem dX2_setWind_34 : decode cX2_setWind 34 = .ok (.ireturn, 1) := by decide +kernel
set_option maxRecDepth 20000 in
theorem ggX2_hire_X2_requireIndex : GoodIn wsX2_hire wsX2_requireIndex := goodIn_ca (goodIn_r _ [9, 10, 11] (by decide +kernel) (by decide +kernel)) (goodIn_sub (fun _ h => List.mem_cons_of_mem _ (List.mem_append_left _ (List.mem_append_left _ (List.mem_append_right _ h)))) (by decide +kernel))
set_option maxRecDepth 20000 in
theorem gX2_hire_X2_requireIndex : GoodIn wsX2_hire (va_wsS RX2 46 yX2_requireIndex wsX2_requireIndex) := goodIn_app (goodIn_of _ (by decide +kernel)) ggX2_hire_X2_requireIndex
set_option maxRecDepth 20000 in
theorem ggX2_hire_X2_requireRange : GoodIn wsX2_hire wsX2_requireRange := goodIn_ca (goodIn_r _ [14, 15, 16] (by decide +kernel) (by decide +kernel)) (goodIn_sub (fun _ h => List.mem_cons_of_mem _ (List.mem_append_left _ (List.mem_append_right _ h))) (by decide +kernel))
set_option maxRecDepth 20000 in
theorem gX2_hire_X2_requireRange : GoodIn wsX2_hire (va_wsS RX2 30 yX2_requireRange wsX2_requireRange) := goodIn_app (goodIn_of _ (by decide +kernel)) ggX2_hire_X2_requireRange
set_option maxRecDepth 20000 in
theorem ggX2_hire_X2_requireRoom : GoodIn wsX2_hire wsX2_requireRoom := goodIn_ca (goodIn_r _ [19, 20, 21] (by decide +kernel) (by decide +kernel)) (goodIn_sub (fun _ h => List.mem_cons_of_mem _ (List.mem_append_right _ h)) (by decide +kernel))
set_option maxRecDepth 20000 in
theorem gX2_hire_X2_requireRoom : GoodIn wsX2_hire (va_wsS RX2 38 yX2_requireRoom wsX2_requireRoom) := goodIn_app (goodIn_of _ (by decide +kernel)) ggX2_hire_X2_requireRoom
set_option maxRecDepth 20000 in
theorem ggX2_hire_X1_addLighter : GoodIn wsX2_hire wsX1_addLighter := goodIn_r _ [26, 27, 28, 29, 48, 49, 50, 51, 52, 53, 54, 55, 56, 57, 58, 59, 60, 61, 62, 63, 64] (by decide +kernel) (by decide +kernel)
set_option maxRecDepth 20000 in
theorem gX2_hire_X1_addLighter : GoodIn wsX2_hire (wsV RX2 79 RX1 yX1_addLighter wsX1_addLighter) := goodIn_app (goodIn_of _ (by decide +kernel)) ggX2_hire_X1_addLighter
set_option maxRecDepth 20000 in
theorem ggX2_hire_X0_sendHome : GoodIn wsX2_hire wsX0_sendHome := goodIn_r _ [34, 35, 36, 37, 38, 39, 40, 33, 41, 42, 43, 65, 66, 67, 68, 69, 70, 71, 72, 73, 74, 75, 76, 77, 78, 79, 80, 48, 49, 50, 51, 52, 53, 54, 55, 56, 57, 58, 59, 60, 61, 62, 63, 64] (by decide +kernel) (by decide +kernel)
set_option maxRecDepth 20000 in
theorem gX2_hire_X0_sendHome : GoodIn wsX2_hire (wsV RX2 85 RX0 yX0_sendHome wsX0_sendHome) := goodIn_app (goodIn_of _ (by decide +kernel)) ggX2_hire_X0_sendHome
theorem dX2_hire_0 : decode cX2_hire 0 = .ok (.iload_n 1, 1) := by decide +kernel
theorem dX2_hire_1 : decode cX2_hire 1 = .ok (.aload_n 0, 1) := by decide +kernel
theorem dX2_hire_2 : decode cX2_hire 2 = .ok (.getfield 12, 3) := by decide +kernel
theorem dX2_hire_5 : decode cX2_hire 5 = .ok (.getfield 34, 3) := by decide +kernel
theorem dX2_hire_8 : decode cX2_hire 8 = .ok (.invokestatic 46, 3) := by decide +kernel
theorem dX2_hire_11 : decode cX2_hire 11 = .ok (.iload_n 2, 1) := by decide +kernel
theorem dX2_hire_12 : decode cX2_hire 12 = .ok (.iconst 1, 1) := by decide +kernel
theorem dX2_hire_13 : decode cX2_hire 13 = .ok (.bipush 9, 2) := by decide +kernel
theorem dX2_hire_15 : decode cX2_hire 15 = .ok (.invokestatic 30, 3) := by decide +kernel
theorem dX2_hire_18 : decode cX2_hire 18 = .ok (.iload_n 3, 1) := by decide +kernel
theorem dX2_hire_19 : decode cX2_hire 19 = .ok (.iconst 0, 1) := by decide +kernel
theorem dX2_hire_20 : decode cX2_hire 20 = .ok (.sipush 999, 3) := by decide +kernel
theorem dX2_hire_23 : decode cX2_hire 23 = .ok (.invokestatic 30, 3) := by decide +kernel
theorem dX2_hire_26 : decode cX2_hire 26 = .ok (.aload_n 0, 1) := by decide +kernel
theorem dX2_hire_27 : decode cX2_hire 27 = .ok (.getfield 12, 3) := by decide +kernel
theorem dX2_hire_30 : decode cX2_hire 30 = .ok (.getfield 76, 3) := by decide +kernel
theorem dX2_hire_33 : decode cX2_hire 33 = .ok (.iconst 4, 1) := by decide +kernel
theorem dX2_hire_34 : decode cX2_hire 34 = .ok (.invokestatic 38, 3) := by decide +kernel
theorem dX2_hire_37 : decode cX2_hire 37 = .ok (.aload_n 0, 1) := by decide +kernel
theorem dX2_hire_38 : decode cX2_hire 38 = .ok (.getfield 12, 3) := by decide +kernel
theorem dX2_hire_41 : decode cX2_hire 41 = .ok (.iload_n 1, 1) := by decide +kernel
theorem dX2_hire_42 : decode cX2_hire 42 = .ok (.iload_n 2, 1) := by decide +kernel
theorem dX2_hire_43 : decode cX2_hire 43 = .ok (.invokevirtual 79, 3) := by decide +kernel
theorem dX2_hire_46 : decode cX2_hire 46 = .ok (.istore 4, 2) := by decide +kernel
theorem dX2_hire_48 : decode cX2_hire 48 = .ok (.aload_n 0, 1) := by decide +kernel
theorem dX2_hire_49 : decode cX2_hire 49 = .ok (.getfield 19, 3) := by decide +kernel
theorem dX2_hire_52 : decode cX2_hire 52 = .ok (.getfield 82, 3) := by decide +kernel
theorem dX2_hire_55 : decode cX2_hire 55 = .ok (.iload 4, 2) := by decide +kernel
theorem dX2_hire_57 : decode cX2_hire 57 = .ok (.iload_n 3, 1) := by decide +kernel
theorem dX2_hire_58 : decode cX2_hire 58 = .ok (.iastore, 1) := by decide +kernel
theorem dX2_hire_59 : decode cX2_hire 59 = .ok (.aload_n 0, 1) := by decide +kernel
theorem dX2_hire_60 : decode cX2_hire 60 = .ok (.getfield 19, 3) := by decide +kernel
theorem dX2_hire_63 : decode cX2_hire 63 = .ok (.aload_n 0, 1) := by decide +kernel
theorem dX2_hire_64 : decode cX2_hire 64 = .ok (.getfield 12, 3) := by decide +kernel
theorem dX2_hire_67 : decode cX2_hire 67 = .ok (.iload 4, 2) := by decide +kernel
theorem dX2_hire_69 : decode cX2_hire 69 = .ok (.invokevirtual 85, 3) := by decide +kernel
theorem dX2_hire_72 : decode cX2_hire 72 = .ok (.iload 4, 2) := by decide +kernel
theorem dX2_hire_74 : decode cX2_hire 74 = .ok (.ireturn, 1) := by decide +kernel
set_option maxRecDepth 20000 in
theorem ggX2_round_X2_requireIndex : GoodIn wsX2_round wsX2_requireIndex := goodIn_ca (goodIn_r _ [10, 11, 12] (by decide +kernel) (by decide +kernel)) (goodIn_sub (fun _ h => List.mem_cons_of_mem _ (List.mem_append_right _ h)) (by decide +kernel))
set_option maxRecDepth 20000 in
theorem gX2_round_X2_requireIndex : GoodIn wsX2_round (va_wsS RX2 46 yX2_requireIndex wsX2_requireIndex) := goodIn_app (goodIn_of _ (by decide +kernel)) ggX2_round_X2_requireIndex
set_option maxRecDepth 20000 in
theorem ggX2_round_X1_isInRound : GoodIn wsX2_round wsX1_isInRound := goodIn_r _ [17, 18, 19, 31, 32, 33, 34, 35, 36, 37, 38, 39, 40, 41, 42, 43, 44, 45, 46, 47] (by decide +kernel) (by decide +kernel)
set_option maxRecDepth 20000 in
theorem gX2_round_X1_isInRound : GoodIn wsX2_round (wsV RX2 89 RX1 yX1_isInRound wsX1_isInRound) := goodIn_app (goodIn_of _ (by decide +kernel)) ggX2_round_X1_isInRound
set_option maxRecDepth 20000 in
theorem ggX2_round_X2_requireRoom : GoodIn wsX2_round wsX2_requireRoom := goodIn_ca (goodIn_r _ [22, 1, 2] (by decide +kernel) (by decide +kernel)) (goodIn_sub (fun _ h => List.mem_cons_of_mem _ (List.mem_append_left _ (List.mem_append_right _ h))) (by decide +kernel))
set_option maxRecDepth 20000 in
theorem gX2_round_X2_requireRoom : GoodIn wsX2_round (va_wsS RX2 38 yX2_requireRoom wsX2_requireRoom) := goodIn_app (goodIn_of _ (by decide +kernel)) ggX2_round_X2_requireRoom
set_option maxRecDepth 20000 in
theorem ggX2_round_X1_addToRound : GoodIn wsX2_round wsX1_addToRound := goodIn_r _ [26, 19, 18, 31, 32, 33, 34, 35, 36, 37, 38, 39, 40, 41, 42, 43, 44, 45, 46, 47] (by decide +kernel) (by decide +kernel)
set_option maxRecDepth 20000 in
theorem gX2_round_X1_addToRound : GoodIn wsX2_round (wsV RX2 101 RX1 yX1_addToRound wsX1_addToRound) := goodIn_app (goodIn_of _ (by decide +kernel)) ggX2_round_X1_addToRound
theorem dX2_round_0 : decode cX2_round 0 = .ok (.iload_n 1, 1) := by decide +kernel
theorem dX2_round_1 : decode cX2_round 1 = .ok (.aload_n 0, 1) := by decide +kernel
theorem dX2_round_2 : decode cX2_round 2 = .ok (.getfield 12, 3) := by decide +kernel
theorem dX2_round_5 : decode cX2_round 5 = .ok (.getfield 76, 3) := by decide +kernel
theorem dX2_round_8 : decode cX2_round 8 = .ok (.invokestatic 46, 3) := by decide +kernel
theorem dX2_round_11 : decode cX2_round 11 = .ok (.iload_n 2, 1) := by decide +kernel
theorem dX2_round_12 : decode cX2_round 12 = .ok (.aload_n 0, 1) := by decide +kernel
theorem dX2_round_13 : decode cX2_round 13 = .ok (.getfield 12, 3) := by decide +kernel
theorem dX2_round_16 : decode cX2_round 16 = .ok (.getfield 63, 3) := by decide +kernel
theorem dX2_round_19 : decode cX2_round 19 = .ok (.invokestatic 46, 3) := by decide +kernel
theorem dX2_round_22 : decode cX2_round 22 = .ok (.aload_n 0, 1) := by decide +kernel
theorem dX2_round_23 : decode cX2_round 23 = .ok (.getfield 12, 3) := by decide +kernel
theorem dX2_round_26 : decode cX2_round 26 = .ok (.iload_n 1, 1) := by decide +kernel
theorem dX2_round_27 : decode cX2_round 27 = .ok (.iload_n 2, 1) := by decide +kernel
theorem dX2_round_28 : decode cX2_round 28 = .ok (.invokevirtual 89, 3) := by decide +kernel
theorem dX2_round_31 : decode cX2_round 31 = .ok (.ifCond .eq 13, 3) := by decide +kernel
theorem dX2_round_34 : decode cX2_round 34 = .ok (.new 93, 3) := by decide +kernel
theorem dX2_round_37 : decode cX2_round 37 = .ok (.dup, 1) := by decide +kernel
theorem dX2_round_38 : decode cX2_round 38 = .ok (.ldc 95, 2) := by decide +kernel
theorem dX2_round_40 : decode cX2_round 40 = .ok (.invokespecial 97, 3) := by decide +kernel
theorem dX2_round_43 : decode cX2_round 43 = .ok (.athrow, 1) := by decide +kernel
theorem dX2_round_44 : decode cX2_round 44 = .ok (.aload_n 0, 1) := by decide +kernel
theorem dX2_round_45 : decode cX2_round 45 = .ok (.getfield 12, 3) := by decide +kernel
theorem dX2_round_48 : decode cX2_round 48 = .ok (.getfield 98, 3) := by decide +kernel
theorem dX2_round_51 : decode cX2_round 51 = .ok (.iload_n 1, 1) := by decide +kernel
theorem dX2_round_52 : decode cX2_round 52 = .ok (.iaload, 1) := by decide +kernel
theorem dX2_round_53 : decode cX2_round 53 = .ok (.bipush 10, 2) := by decide +kernel
theorem dX2_round_55 : decode cX2_round 55 = .ok (.invokestatic 38, 3) := by decide +kernel
theorem dX2_round_58 : decode cX2_round 58 = .ok (.aload_n 0, 1) := by decide +kernel
theorem dX2_round_59 : decode cX2_round 59 = .ok (.getfield 12, 3) := by decide +kernel
theorem dX2_round_62 : decode cX2_round 62 = .ok (.iload_n 1, 1) := by decide +kernel
theorem dX2_round_63 : decode cX2_round 63 = .ok (.iload_n 2, 1) := by decide +kernel
theorem dX2_round_64 : decode cX2_round 64 = .ok (.invokevirtual 101, 3) := by decide +kernel
theorem dX2_round_67 : decode cX2_round 67 = .ok (.ireturn, 1) := by decide +kernel
set_option maxRecDepth 20000 in
theorem ggX2_fill_X2_requireIndex : GoodIn wsX2_fill wsX2_requireIndex := goodIn_ca (goodIn_r _ [12, 13, 14] (by decide +kernel) (by decide +kernel)) (goodIn_sub (fun _ h => List.mem_cons_of_mem _ (List.mem_append_left _ (List.mem_append_right _ h))) (by decide +kernel))
set_option maxRecDepth 20000 in
theorem gX2_fill_X2_requireIndex : GoodIn wsX2_fill (va_wsS RX2 46 yX2_requireIndex wsX2_requireIndex) := goodIn_app (goodIn_of _ (by decide +kernel)) ggX2_fill_X2_requireIndex
set_option maxRecDepth 20000 in
theorem ggX2_fill_X2_requireRange : GoodIn wsX2_fill wsX2_requireRange := goodIn_ca (goodIn_r _ [17, 18, 19] (by decide +kernel) (by decide +kernel)) (goodIn_sub (fun _ h => List.mem_cons_of_mem _ (List.mem_append_right _ h)) (by decide +kernel))
set_option maxRecDepth 20000 in
theorem gX2_fill_X2_requireRange : GoodIn wsX2_fill (va_wsS RX2 30 yX2_requireRange wsX2_requireRange) := goodIn_app (goodIn_of _ (by decide +kernel)) ggX2_fill_X2_requireRange
theorem dX2_fill_0 : decode cX2_fill 0 = .ok (.iload_n 1, 1) := by decide +kernel
theorem dX2_fill_1 : decode cX2_fill 1 = .ok (.aload_n 0, 1) := by decide +kernel
theorem dX2_fill_2 : decode cX2_fill 2 = .ok (.getfield 12, 3) := by decide +kernel
theorem dX2_fill_5 : decode cX2_fill 5 = .ok (.getfield 76, 3) := by decide +kernel
theorem dX2_fill_8 : decode cX2_fill 8 = .ok (.invokestatic 46, 3) := by decide +kernel
theorem dX2_fill_11 : decode cX2_fill 11 = .ok (.iload_n 2, 1) := by decide +kernel
theorem dX2_fill_12 : decode cX2_fill 12 = .ok (.iconst 1, 1) := by decide +kernel
theorem dX2_fill_13 : decode cX2_fill 13 = .ok (.sipush 999, 3) := by decide +kernel
theorem dX2_fill_16 : decode cX2_fill 16 = .ok (.invokestatic 30, 3) := by decide +kernel
theorem dX2_fill_19 : decode cX2_fill 19 = .ok (.aload_n 0, 1) := by decide +kernel
theorem dX2_fill_20 : decode cX2_fill 20 = .ok (.getfield 19, 3) := by decide +kernel
theorem dX2_fill_23 : decode cX2_fill 23 = .ok (.getfield 82, 3) := by decide +kernel
theorem dX2_fill_26 : decode cX2_fill 26 = .ok (.iload_n 1, 1) := by decide +kernel
theorem dX2_fill_27 : decode cX2_fill 27 = .ok (.sipush 999, 3) := by decide +kernel
theorem dX2_fill_30 : decode cX2_fill 30 = .ok (.aload_n 0, 1) := by decide +kernel
theorem dX2_fill_31 : decode cX2_fill 31 = .ok (.getfield 19, 3) := by decide +kernel
theorem dX2_fill_34 : decode cX2_fill 34 = .ok (.getfield 82, 3) := by decide +kernel
theorem dX2_fill_37 : decode cX2_fill 37 = .ok (.iload_n 1, 1) := by decide +kernel
theorem dX2_fill_38 : decode cX2_fill 38 = .ok (.iaload, 1) := by decide +kernel
theorem dX2_fill_39 : decode cX2_fill 39 = .ok (.iload_n 2, 1) := by decide +kernel
theorem dX2_fill_40 : decode cX2_fill 40 = .ok (.iadd, 1) := by decide +kernel
theorem dX2_fill_41 : decode cX2_fill 41 = .ok (.invokestatic 104, 3) := by decide +kernel
theorem dX2_fill_44 : decode cX2_fill 44 = .ok (.iastore, 1) := by decide +kernel
theorem dX2_fill_45 : decode cX2_fill 45 = .ok (.aload_n 0, 1) := by decide +kernel
theorem dX2_fill_46 : decode cX2_fill 46 = .ok (.getfield 19, 3) := by decide +kernel
theorem dX2_fill_49 : decode cX2_fill 49 = .ok (.getfield 82, 3) := by decide +kernel
theorem dX2_fill_52 : decode cX2_fill 52 = .ok (.iload_n 1, 1) := by decide +kernel
theorem dX2_fill_53 : decode cX2_fill 53 = .ok (.iaload, 1) := by decide +kernel
theorem dX2_fill_54 : decode cX2_fill 54 = .ok (.ireturn, 1) := by decide +kernel
set_option maxRecDepth 20000 in
theorem ggX2_told_X2_requireIndex : GoodIn wsX2_told wsX2_requireIndex := goodIn_ca (goodIn_r _ [15, 16, 17] (by decide +kernel) (by decide +kernel)) (goodIn_sub (fun _ h => List.mem_cons_of_mem _ (List.mem_append_right _ h)) (by decide +kernel))
set_option maxRecDepth 20000 in
theorem gX2_told_X2_requireIndex : GoodIn wsX2_told (va_wsS RX2 46 yX2_requireIndex wsX2_requireIndex) := goodIn_app (goodIn_of _ (by decide +kernel)) ggX2_told_X2_requireIndex
set_option maxRecDepth 20000 in
theorem ggX2_told_X0_whoGoesTo : GoodIn wsX2_told wsX0_whoGoesTo := goodIn_r _ [22, 23, 24, 29, 30, 31, 32, 33, 34, 35, 36, 37, 38, 39, 40, 41, 42, 43, 44, 45, 46, 47, 48, 49, 50, 51, 52, 53, 54, 55, 56, 57, 58, 59, 60, 61] (by decide +kernel) (by decide +kernel)
set_option maxRecDepth 20000 in
theorem gX2_told_X0_whoGoesTo : GoodIn wsX2_told (wsV RX2 130 RX0 yX0_whoGoesTo wsX0_whoGoesTo) := goodIn_app (goodIn_of _ (by decide +kernel)) ggX2_told_X0_whoGoesTo
theorem dX2_told_0 : decode cX2_told 0 = .ok (.iload_n 1, 1) := by decide +kernel
theorem dX2_told_1 : decode cX2_told 1 = .ok (.aload_n 0, 1) := by decide +kernel
theorem dX2_told_2 : decode cX2_told 2 = .ok (.getfield 12, 3) := by decide +kernel
theorem dX2_told_5 : decode cX2_told 5 = .ok (.getfield 63, 3) := by decide +kernel
theorem dX2_told_8 : decode cX2_told 8 = .ok (.invokestatic 46, 3) := by decide +kernel
theorem dX2_told_11 : decode cX2_told 11 = .ok (.iload_n 2, 1) := by decide +kernel
theorem dX2_told_12 : decode cX2_told 12 = .ok (.bipush 9, 2) := by decide +kernel
theorem dX2_told_14 : decode cX2_told 14 = .ok (.invokestatic 46, 3) := by decide +kernel
theorem dX2_told_17 : decode cX2_told 17 = .ok (.iload_n 2, 1) := by decide +kernel
theorem dX2_told_18 : decode cX2_told 18 = .ok (.tableswitch 137 0 7 #[46, 56, 66, 76, 86, 96, 114, 127], 46) := by decide +kernel
theorem dX2_told_64 : decode cX2_told 64 = .ok (.aload_n 0, 1) := by decide +kernel
theorem dX2_told_65 : decode cX2_told 65 = .ok (.getfield 12, 3) := by decide +kernel
theorem dX2_told_68 : decode cX2_told 68 = .ok (.getfield 114, 3) := by decide +kernel
theorem dX2_told_71 : decode cX2_told 71 = .ok (.iload_n 1, 1) := by decide +kernel
theorem dX2_told_72 : decode cX2_told 72 = .ok (.iaload, 1) := by decide +kernel
theorem dX2_told_73 : decode cX2_told 73 = .ok (.ireturn, 1) := by decide +kernel
theorem dX2_told_74 : decode cX2_told 74 = .ok (.aload_n 0, 1) := by decide +kernel
theorem dX2_told_75 : decode cX2_told 75 = .ok (.getfield 12, 3) := by decide +kernel
theorem dX2_told_78 : decode cX2_told 78 = .ok (.getfield 117, 3) := by decide +kernel
theorem dX2_told_81 : decode cX2_told 81 = .ok (.iload_n 1, 1) := by decide +kernel
theorem dX2_told_82 : decode cX2_told 82 = .ok (.iaload, 1) := by decide +kernel
theorem dX2_told_83 : decode cX2_told 83 = .ok (.ireturn, 1) := by decide +kernel
theorem dX2_told_84 : decode cX2_told 84 = .ok (.aload_n 0, 1) := by decide +kernel
theorem dX2_told_85 : decode cX2_told 85 = .ok (.getfield 12, 3) := by decide +kernel
theorem dX2_told_88 : decode cX2_told 88 = .ok (.getfield 70, 3) := by decide +kernel
theorem dX2_told_91 : decode cX2_told 91 = .ok (.iload_n 1, 1) := by decide +kernel
theorem dX2_told_92 : decode cX2_told 92 = .ok (.iaload, 1) := by decide +kernel
theorem dX2_told_93 : decode cX2_told 93 = .ok (.ireturn, 1) := by decide +kernel
theorem dX2_told_94 : decode cX2_told 94 = .ok (.aload_n 0, 1) := by decide +kernel
theorem dX2_told_95 : decode cX2_told 95 = .ok (.getfield 19, 3) := by decide +kernel
theorem dX2_told_98 : decode cX2_told 98 = .ok (.getfield 120, 3) := by decide +kernel
theorem dX2_told_101 : decode cX2_told 101 = .ok (.iload_n 1, 1) := by decide +kernel
theorem dX2_told_102 : decode cX2_told 102 = .ok (.iaload, 1) := by decide +kernel
theorem dX2_told_103 : decode cX2_told 103 = .ok (.ireturn, 1) := by decide +kernel
theorem dX2_told_104 : decode cX2_told 104 = .ok (.aload_n 0, 1) := by decide +kernel
theorem dX2_told_105 : decode cX2_told 105 = .ok (.getfield 19, 3) := by decide +kernel
theorem dX2_told_108 : decode cX2_told 108 = .ok (.getfield 123, 3) := by decide +kernel
theorem dX2_told_111 : decode cX2_told 111 = .ok (.iload_n 1, 1) := by decide +kernel
theorem dX2_told_112 : decode cX2_told 112 = .ok (.iaload, 1) := by decide +kernel
theorem dX2_told_113 : decode cX2_told 113 = .ok (.ireturn, 1) := by decide +kernel
theorem dX2_told_114 : decode cX2_told 114 = .ok (.aload_n 0, 1) := by decide +kernel
theorem dX2_told_115 : decode cX2_told 115 = .ok (.getfield 19, 3) := by decide +kernel
theorem dX2_told_118 : decode cX2_told 118 = .ok (.getfield 126, 3) := by decide +kernel
theorem dX2_told_121 : decode cX2_told 121 = .ok (.iload_n 1, 1) := by decide +kernel
theorem dX2_told_122 : decode cX2_told 122 = .ok (.baload, 1) := by decide +kernel
theorem dX2_told_123 : decode cX2_told 123 = .ok (.ifCond .eq 7, 3) := by decide +kernel
theorem dX2_told_126 : decode cX2_told 126 = .ok (.iconst 1, 1) := by decide +kernel
theorem dX2_told_127 : decode cX2_told 127 = .ok (.goto 4, 3) := by decide +kernel
theorem dX2_told_130 : decode cX2_told 130 = .ok (.iconst 0, 1) := by decide +kernel
theorem dX2_told_131 : decode cX2_told 131 = .ok (.ireturn, 1) := by decide +kernel
theorem dX2_told_132 : decode cX2_told 132 = .ok (.aload_n 0, 1) := by decide +kernel
theorem dX2_told_133 : decode cX2_told 133 = .ok (.getfield 19, 3) := by decide +kernel
theorem dX2_told_136 : decode cX2_told 136 = .ok (.aload_n 0, 1) := by decide +kernel
theorem dX2_told_137 : decode cX2_told 137 = .ok (.getfield 12, 3) := by decide +kernel
theorem dX2_told_140 : decode cX2_told 140 = .ok (.iload_n 1, 1) := by decide +kernel
theorem dX2_told_141 : decode cX2_told 141 = .ok (.invokevirtual 130, 3) := by decide +kernel
theorem dX2_told_144 : decode cX2_told 144 = .ok (.ireturn, 1) := by decide +kernel
theorem dX2_told_145 : decode cX2_told 145 = .ok (.aload_n 0, 1) := by decide +kernel
theorem dX2_told_146 : decode cX2_told 146 = .ok (.getfield 19, 3) := by decide +kernel
theorem dX2_told_149 : decode cX2_told 149 = .ok (.getfield 134, 3) := by decide +kernel
theorem dX2_told_152 : decode cX2_told 152 = .ok (.iload_n 1, 1) := by decide +kernel
theorem dX2_told_153 : decode cX2_told 153 = .ok (.iaload, 1) := by decide +kernel
theorem dX2_told_154 : decode cX2_told 154 = .ok (.ireturn, 1) := by decide +kernel
theorem dX2_told_155 : decode cX2_told 155 = .ok (.aload_n 0, 1) := by decide +kernel
theorem dX2_told_156 : decode cX2_told 156 = .ok (.getfield 19, 3) := by decide +kernel
theorem dX2_told_159 : decode cX2_told 159 = .ok (.getfield 137, 3) := by decide +kernel
theorem dX2_told_162 : decode cX2_told 162 = .ok (.iload_n 1, 1) := by decide +kernel
theorem dX2_told_163 : decode cX2_told 163 = .ok (.iaload, 1) := by decide +kernel
theorem dX2_told_164 : decode cX2_told 164 = .ok (.ireturn, 1) := by decide +kernel
set_option maxRecDepth 20000 in
theorem ggX2_lighter_X2_requireIndex : GoodIn wsX2_lighter wsX2_requireIndex := goodIn_ca (goodIn_r _ [14, 15, 16] (by decide +kernel) (by decide +kernel)) (goodIn_sub (fun _ h => List.mem_cons_of_mem _ (List.mem_append_right _ h)) (by decide +kernel))
set_option maxRecDepth 20000 in
theorem gX2_lighter_X2_requireIndex : GoodIn wsX2_lighter (va_wsS RX2 46 yX2_requireIndex wsX2_requireIndex) := goodIn_app (goodIn_of _ (by decide +kernel)) ggX2_lighter_X2_requireIndex
theorem dX2_lighter_0 : decode cX2_lighter 0 = .ok (.iload_n 1, 1) := by decide +kernel
theorem dX2_lighter_1 : decode cX2_lighter 1 = .ok (.aload_n 0, 1) := by decide +kernel
theorem dX2_lighter_2 : decode cX2_lighter 2 = .ok (.getfield 12, 3) := by decide +kernel
theorem dX2_lighter_5 : decode cX2_lighter 5 = .ok (.getfield 76, 3) := by decide +kernel
theorem dX2_lighter_8 : decode cX2_lighter 8 = .ok (.invokestatic 46, 3) := by decide +kernel
theorem dX2_lighter_11 : decode cX2_lighter 11 = .ok (.iload_n 2, 1) := by decide +kernel
theorem dX2_lighter_12 : decode cX2_lighter 12 = .ok (.bipush 7, 2) := by decide +kernel
theorem dX2_lighter_14 : decode cX2_lighter 14 = .ok (.invokestatic 46, 3) := by decide +kernel
theorem dX2_lighter_17 : decode cX2_lighter 17 = .ok (.iload_n 2, 1) := by decide +kernel
theorem dX2_lighter_18 : decode cX2_lighter 18 = .ok (.tableswitch 98 0 5 #[38, 48, 58, 68, 78, 88], 38) := by decide +kernel
theorem dX2_lighter_56 : decode cX2_lighter 56 = .ok (.aload_n 0, 1) := by decide +kernel
theorem dX2_lighter_57 : decode cX2_lighter 57 = .ok (.getfield 19, 3) := by decide +kernel
theorem dX2_lighter_60 : decode cX2_lighter 60 = .ok (.getfield 140, 3) := by decide +kernel
theorem dX2_lighter_63 : decode cX2_lighter 63 = .ok (.iload_n 1, 1) := by decide +kernel
theorem dX2_lighter_64 : decode cX2_lighter 64 = .ok (.iaload, 1) := by decide +kernel
theorem dX2_lighter_65 : decode cX2_lighter 65 = .ok (.ireturn, 1) := by decide +kernel
theorem dX2_lighter_66 : decode cX2_lighter 66 = .ok (.aload_n 0, 1) := by decide +kernel
theorem dX2_lighter_67 : decode cX2_lighter 67 = .ok (.getfield 12, 3) := by decide +kernel
theorem dX2_lighter_70 : decode cX2_lighter 70 = .ok (.getfield 143, 3) := by decide +kernel
theorem dX2_lighter_73 : decode cX2_lighter 73 = .ok (.iload_n 1, 1) := by decide +kernel
theorem dX2_lighter_74 : decode cX2_lighter 74 = .ok (.iaload, 1) := by decide +kernel
theorem dX2_lighter_75 : decode cX2_lighter 75 = .ok (.ireturn, 1) := by decide +kernel
theorem dX2_lighter_76 : decode cX2_lighter 76 = .ok (.aload_n 0, 1) := by decide +kernel
theorem dX2_lighter_77 : decode cX2_lighter 77 = .ok (.getfield 19, 3) := by decide +kernel
theorem dX2_lighter_80 : decode cX2_lighter 80 = .ok (.getfield 82, 3) := by decide +kernel
theorem dX2_lighter_83 : decode cX2_lighter 83 = .ok (.iload_n 1, 1) := by decide +kernel
theorem dX2_lighter_84 : decode cX2_lighter 84 = .ok (.iaload, 1) := by decide +kernel
theorem dX2_lighter_85 : decode cX2_lighter 85 = .ok (.ireturn, 1) := by decide +kernel
theorem dX2_lighter_86 : decode cX2_lighter 86 = .ok (.aload_n 0, 1) := by decide +kernel
theorem dX2_lighter_87 : decode cX2_lighter 87 = .ok (.getfield 12, 3) := by decide +kernel
theorem dX2_lighter_90 : decode cX2_lighter 90 = .ok (.getfield 98, 3) := by decide +kernel
theorem dX2_lighter_93 : decode cX2_lighter 93 = .ok (.iload_n 1, 1) := by decide +kernel
theorem dX2_lighter_94 : decode cX2_lighter 94 = .ok (.iaload, 1) := by decide +kernel
theorem dX2_lighter_95 : decode cX2_lighter 95 = .ok (.ireturn, 1) := by decide +kernel
theorem dX2_lighter_96 : decode cX2_lighter 96 = .ok (.aload_n 0, 1) := by decide +kernel
theorem dX2_lighter_97 : decode cX2_lighter 97 = .ok (.getfield 19, 3) := by decide +kernel
theorem dX2_lighter_100 : decode cX2_lighter 100 = .ok (.getfield 146, 3) := by decide +kernel
theorem dX2_lighter_103 : decode cX2_lighter 103 = .ok (.iload_n 1, 1) := by decide +kernel
theorem dX2_lighter_104 : decode cX2_lighter 104 = .ok (.iaload, 1) := by decide +kernel
theorem dX2_lighter_105 : decode cX2_lighter 105 = .ok (.ireturn, 1) := by decide +kernel
theorem dX2_lighter_106 : decode cX2_lighter 106 = .ok (.aload_n 0, 1) := by decide +kernel
theorem dX2_lighter_107 : decode cX2_lighter 107 = .ok (.getfield 19, 3) := by decide +kernel
theorem dX2_lighter_110 : decode cX2_lighter 110 = .ok (.getfield 149, 3) := by decide +kernel
theorem dX2_lighter_113 : decode cX2_lighter 113 = .ok (.iload_n 1, 1) := by decide +kernel
theorem dX2_lighter_114 : decode cX2_lighter 114 = .ok (.iaload, 1) := by decide +kernel
theorem dX2_lighter_115 : decode cX2_lighter 115 = .ok (.ireturn, 1) := by decide +kernel
theorem dX2_lighter_116 : decode cX2_lighter 116 = .ok (.aload_n 0, 1) := by decide +kernel
theorem dX2_lighter_117 : decode cX2_lighter 117 = .ok (.getfield 19, 3) := by decide +kernel
theorem dX2_lighter_120 : decode cX2_lighter 120 = .ok (.getfield 152, 3) := by decide +kernel
theorem dX2_lighter_123 : decode cX2_lighter 123 = .ok (.iload_n 1, 1) := by decide +kernel
theorem dX2_lighter_124 : decode cX2_lighter 124 = .ok (.iaload, 1) := by decide +kernel
theorem dX2_lighter_125 : decode cX2_lighter 125 = .ok (.ireturn, 1) := by decide +kernel
set_option maxRecDepth 20000 in
theorem ggX2_burning_X2_requireIndex : GoodIn wsX2_burning wsX2_requireIndex := goodIn_ca (goodIn_r _ [8, 9, 10] (by decide +kernel) (by decide +kernel)) (goodIn_sub (fun _ h => List.mem_cons_of_mem _ (List.mem_append_right _ h)) (by decide +kernel))
set_option maxRecDepth 20000 in
theorem gX2_burning_X2_requireIndex : GoodIn wsX2_burning (va_wsS RX2 46 yX2_requireIndex wsX2_requireIndex) := goodIn_app (goodIn_of _ (by decide +kernel)) ggX2_burning_X2_requireIndex
theorem dX2_burning_0 : decode cX2_burning 0 = .ok (.iload_n 1, 1) := by decide +kernel
theorem dX2_burning_1 : decode cX2_burning 1 = .ok (.aload_n 0, 1) := by decide +kernel
theorem dX2_burning_2 : decode cX2_burning 2 = .ok (.getfield 12, 3) := by decide +kernel
theorem dX2_burning_5 : decode cX2_burning 5 = .ok (.getfield 56, 3) := by decide +kernel
theorem dX2_burning_8 : decode cX2_burning 8 = .ok (.invokestatic 46, 3) := by decide +kernel
theorem dX2_burning_11 : decode cX2_burning 11 = .ok (.aload_n 0, 1) := by decide +kernel
theorem dX2_burning_12 : decode cX2_burning 12 = .ok (.getfield 19, 3) := by decide +kernel
theorem dX2_burning_15 : decode cX2_burning 15 = .ok (.getfield 155, 3) := by decide +kernel
theorem dX2_burning_18 : decode cX2_burning 18 = .ok (.iload_n 1, 1) := by decide +kernel
theorem dX2_burning_19 : decode cX2_burning 19 = .ok (.iaload, 1) := by decide +kernel
theorem dX2_burning_20 : decode cX2_burning 20 = .ok (.ireturn, 1) := by decide +kernel
set_option maxRecDepth 20000 in
theorem ggX2_count_X2_requireIndex : GoodIn wsX2_count wsX2_requireIndex := goodIn_ca (goodIn_r _ [13, 14, 15] (by decide +kernel) (by decide +kernel)) (goodIn_sub (fun _ h => List.mem_cons_of_mem _ (List.mem_append_right _ h)) (by decide +kernel))
set_option maxRecDepth 20000 in
theorem gX2_count_X2_requireIndex : GoodIn wsX2_count (va_wsS RX2 46 yX2_requireIndex wsX2_requireIndex) := goodIn_app (goodIn_of _ (by decide +kernel)) ggX2_count_X2_requireIndex
set_option maxRecDepth 20000 in
theorem ggX2_count_X0_burningLamps : GoodIn wsX2_count wsX0_burningLamps := goodIn_r _ [20, 21, 22, 57, 58, 59, 60, 61, 62, 63, 64, 65, 66, 67, 68, 69, 70, 71, 72, 73, 41, 42, 43, 44, 45, 46, 47, 48, 49, 50, 51, 52, 53, 54, 55, 56] (by decide +kernel) (by decide +kernel)
set_option maxRecDepth 20000 in
theorem gX2_count_X0_burningLamps : GoodIn wsX2_count (wsV RX2 164 RX0 yX0_burningLamps wsX0_burningLamps) := goodIn_app (goodIn_of _ (by decide +kernel)) ggX2_count_X0_burningLamps
set_option maxRecDepth 20000 in
theorem ggX2_count_X0_darkStreets : GoodIn wsX2_count wsX0_darkStreets := goodIn_r _ [26, 21, 27, 28, 29, 19, 30, 22, 57, 58, 59, 60, 61, 62, 63, 64, 65, 66, 67, 68, 69, 70, 71, 72, 73, 41, 42, 43, 44, 45, 46, 47, 48, 49, 50, 51, 52, 53, 54, 55, 56] (by decide +kernel) (by decide +kernel)
set_option maxRecDepth 20000 in
theorem gX2_count_X0_darkStreets : GoodIn wsX2_count (wsV RX2 168 RX0 yX0_darkStreets wsX0_darkStreets) := goodIn_app (goodIn_of _ (by decide +kernel)) ggX2_count_X0_darkStreets
set_option maxRecDepth 20000 in
theorem ggX2_count_X0_oilOfLamps : GoodIn wsX2_count wsX0_oilOfLamps := goodIn_r _ [34, 35, 36, 57, 58, 59, 60, 61, 62, 63, 64, 65, 66, 67, 68, 69, 70, 71, 72, 73, 41, 42, 43, 44, 45, 46, 47, 48, 49, 50, 51, 52, 53, 54, 55, 56] (by decide +kernel) (by decide +kernel)
set_option maxRecDepth 20000 in
theorem gX2_count_X0_oilOfLamps : GoodIn wsX2_count (wsV RX2 171 RX0 yX0_oilOfLamps wsX0_oilOfLamps) := goodIn_app (goodIn_of _ (by decide +kernel)) ggX2_count_X0_oilOfLamps
theorem dX2_count_0 : decode cX2_count 0 = .ok (.iload_n 1, 1) := by decide +kernel
theorem dX2_count_1 : decode cX2_count 1 = .ok (.bipush 10, 2) := by decide +kernel
theorem dX2_count_3 : decode cX2_count 3 = .ok (.invokestatic 46, 3) := by decide +kernel
theorem dX2_count_6 : decode cX2_count 6 = .ok (.iload_n 1, 1) := by decide +kernel
theorem dX2_count_7 : decode cX2_count 7 = .ok (.tableswitch 133 0 8 #[49, 57, 65, 73, 81, 89, 101, 113, 121], 49) := by decide +kernel
theorem dX2_count_56 : decode cX2_count 56 = .ok (.aload_n 0, 1) := by decide +kernel
theorem dX2_count_57 : decode cX2_count 57 = .ok (.getfield 19, 3) := by decide +kernel
theorem dX2_count_60 : decode cX2_count 60 = .ok (.getfield 158, 3) := by decide +kernel
theorem dX2_count_63 : decode cX2_count 63 = .ok (.ireturn, 1) := by decide +kernel
theorem dX2_count_64 : decode cX2_count 64 = .ok (.aload_n 0, 1) := by decide +kernel
theorem dX2_count_65 : decode cX2_count 65 = .ok (.getfield 19, 3) := by decide +kernel
theorem dX2_count_68 : decode cX2_count 68 = .ok (.getfield 161, 3) := by decide +kernel
theorem dX2_count_71 : decode cX2_count 71 = .ok (.ireturn, 1) := by decide +kernel
theorem dX2_count_72 : decode cX2_count 72 = .ok (.aload_n 0, 1) := by decide +kernel
theorem dX2_count_73 : decode cX2_count 73 = .ok (.getfield 12, 3) := by decide +kernel
theorem dX2_count_76 : decode cX2_count 76 = .ok (.getfield 34, 3) := by decide +kernel
theorem dX2_count_79 : decode cX2_count 79 = .ok (.ireturn, 1) := by decide +kernel
theorem dX2_count_80 : decode cX2_count 80 = .ok (.aload_n 0, 1) := by decide +kernel
theorem dX2_count_81 : decode cX2_count 81 = .ok (.getfield 12, 3) := by decide +kernel
theorem dX2_count_84 : decode cX2_count 84 = .ok (.getfield 56, 3) := by decide +kernel
theorem dX2_count_87 : decode cX2_count 87 = .ok (.ireturn, 1) := by decide +kernel
theorem dX2_count_88 : decode cX2_count 88 = .ok (.aload_n 0, 1) := by decide +kernel
theorem dX2_count_89 : decode cX2_count 89 = .ok (.getfield 12, 3) := by decide +kernel
theorem dX2_count_92 : decode cX2_count 92 = .ok (.getfield 63, 3) := by decide +kernel
theorem dX2_count_95 : decode cX2_count 95 = .ok (.ireturn, 1) := by decide +kernel
theorem dX2_count_96 : decode cX2_count 96 = .ok (.aload_n 0, 1) := by decide +kernel
theorem dX2_count_97 : decode cX2_count 97 = .ok (.getfield 19, 3) := by decide +kernel
theorem dX2_count_100 : decode cX2_count 100 = .ok (.aload_n 0, 1) := by decide +kernel
theorem dX2_count_101 : decode cX2_count 101 = .ok (.getfield 12, 3) := by decide +kernel
theorem dX2_count_104 : decode cX2_count 104 = .ok (.invokevirtual 164, 3) := by decide +kernel
theorem dX2_count_107 : decode cX2_count 107 = .ok (.ireturn, 1) := by decide +kernel
theorem dX2_count_108 : decode cX2_count 108 = .ok (.aload_n 0, 1) := by decide +kernel
theorem dX2_count_109 : decode cX2_count 109 = .ok (.getfield 19, 3) := by decide +kernel
theorem dX2_count_112 : decode cX2_count 112 = .ok (.aload_n 0, 1) := by decide +kernel
theorem dX2_count_113 : decode cX2_count 113 = .ok (.getfield 12, 3) := by decide +kernel
theorem dX2_count_116 : decode cX2_count 116 = .ok (.invokevirtual 168, 3) := by decide +kernel
theorem dX2_count_119 : decode cX2_count 119 = .ok (.ireturn, 1) := by decide +kernel
theorem dX2_count_120 : decode cX2_count 120 = .ok (.aload_n 0, 1) := by decide +kernel
theorem dX2_count_121 : decode cX2_count 121 = .ok (.getfield 12, 3) := by decide +kernel
theorem dX2_count_124 : decode cX2_count 124 = .ok (.getfield 76, 3) := by decide +kernel
theorem dX2_count_127 : decode cX2_count 127 = .ok (.ireturn, 1) := by decide +kernel
theorem dX2_count_128 : decode cX2_count 128 = .ok (.aload_n 0, 1) := by decide +kernel
theorem dX2_count_129 : decode cX2_count 129 = .ok (.getfield 19, 3) := by decide +kernel
theorem dX2_count_132 : decode cX2_count 132 = .ok (.aload_n 0, 1) := by decide +kernel
theorem dX2_count_133 : decode cX2_count 133 = .ok (.getfield 12, 3) := by decide +kernel
theorem dX2_count_136 : decode cX2_count 136 = .ok (.invokevirtual 171, 3) := by decide +kernel
theorem dX2_count_139 : decode cX2_count 139 = .ok (.ireturn, 1) := by decide +kernel
theorem dX2_count_140 : decode cX2_count 140 = .ok (.aload_n 0, 1) := by decide +kernel
theorem dX2_count_141 : decode cX2_count 141 = .ok (.getfield 19, 3) := by decide +kernel
theorem dX2_count_144 : decode cX2_count 144 = .ok (.getfield 174, 3) := by decide +kernel
theorem dX2_count_147 : decode cX2_count 147 = .ok (.ireturn, 1) := by decide +kernel
set_option maxRecDepth 20000 in
theorem ggX2_pass_X2_requireRange : GoodIn wsX2_pass wsX2_requireRange := goodIn_ca (goodIn_r _ [6, 7, 8] (by decide +kernel) (by decide +kernel)) (goodIn_sub (fun _ h => List.mem_cons_of_mem _ (List.mem_append_right _ h)) (by decide +kernel))
set_option maxRecDepth 20000 in
theorem gX2_pass_X2_requireRange : GoodIn wsX2_pass (va_wsS RX2 30 yX2_requireRange wsX2_requireRange) := goodIn_app (goodIn_of _ (by decide +kernel)) ggX2_pass_X2_requireRange
set_option maxRecDepth 20000 in
theorem ggX2_pass_X0_goBy : GoodIn wsX2_pass wsX0_goBy := goodIn_r _ [13, 14, 15, 16, 17, 18, 12, 19, 20, 21, 22, 23, 24, 25, 26, 27, 28, 29, 30, 31, 32, 33, 34, 35, 36, 37, 38, 39, 40, 41, 42, 43, 44, 45, 46, 47, 48, 49, 50, 51, 52, 53, 54, 55, 56, 57, 58, 59, 60, 61, 62, 63, 64, 65, 66, 67, 68, 69, 70, 71, 72, 73, 74, 75, 76, 77, 78, 79, 80, 81, 82, 83, 84, 85, 86, 87, 88, 89, 90, 91, 92, 93, 94, 95, 96, 97, 98, 99, 100, 101, 102, 103, 104, 105, 110, 111, 112, 113, 114, 115, 116, 117, 118, 119, 120, 121, 122, 123, 124, 125, 126, 127, 128, 129, 130, 131, 132, 133, 134, 135, 136, 137, 138, 139, 140, 141, 142] (by decide +kernel) (by decide +kernel)
set_option maxRecDepth 20000 in
theorem gX2_pass_X0_goBy : GoodIn wsX2_pass (wsV RX2 177 RX0 yX0_goBy wsX0_goBy) := goodIn_app (goodIn_of _ (by decide +kernel)) ggX2_pass_X0_goBy
theorem dX2_pass_0 : decode cX2_pass 0 = .ok (.iload_n 1, 1) := by decide +kernel
theorem dX2_pass_1 : decode cX2_pass 1 = .ok (.iconst 1, 1) := by decide +kernel
theorem dX2_pass_2 : decode cX2_pass 2 = .ok (.sipush 600, 3) := by decide +kernel
theorem dX2_pass_5 : decode cX2_pass 5 = .ok (.invokestatic 30, 3) := by decide +kernel
theorem dX2_pass_8 : decode cX2_pass 8 = .ok (.aload_n 0, 1) := by decide +kernel
theorem dX2_pass_9 : decode cX2_pass 9 = .ok (.getfield 19, 3) := by decide +kernel
theorem dX2_pass_12 : decode cX2_pass 12 = .ok (.aload_n 0, 1) := by decide +kernel
theorem dX2_pass_13 : decode cX2_pass 13 = .ok (.getfield 12, 3) := by decide +kernel
theorem dX2_pass_16 : decode cX2_pass 16 = .ok (.iload_n 1, 1) := by decide +kernel
theorem dX2_pass_17 : decode cX2_pass 17 = .ok (.invokevirtual 177, 3) := by decide +kernel
theorem dX2_pass_20 : decode cX2_pass 20 = .ok (.ireturn, 1) := by decide +kernel
set_option maxRecDepth 20000 in
theorem ggX2_dawn_X0_burningLamps : GoodIn wsX2_dawn wsX0_burningLamps := goodIn_r _ [10, 11, 12, 60, 61, 62, 63, 64, 65, 66, 67, 68, 69, 70, 71, 72, 73, 74, 75, 76, 44, 45, 46, 47, 48, 49, 50, 51, 52, 53, 54, 55, 56, 57, 58, 59] (by decide +kernel) (by decide +kernel)
set_option maxRecDepth 20000 in
theorem gX2_dawn_X0_burningLamps : GoodIn wsX2_dawn (wsV RX2 164 RX0 yX0_burningLamps wsX0_burningLamps) := goodIn_app (goodIn_of _ (by decide +kernel)) ggX2_dawn_X0_burningLamps
set_option maxRecDepth 20000 in
theorem ggX2_dawn_X0_beginNext : GoodIn wsX2_dawn wsX0_beginNext := goodIn_r _ [16, 17, 18, 19, 20, 21, 22, 23, 24, 9, 25, 12, 26, 27, 28, 29, 30, 31, 32, 33, 34, 35, 36, 37, 38, 39, 44, 45, 46, 47, 48, 49, 50, 51, 52, 53, 54, 55, 56, 57, 58, 59, 60, 61, 62, 63, 64, 65, 66, 67, 68, 69, 70, 71, 72, 73, 74, 75, 76] (by decide +kernel) (by decide +kernel)
set_option maxRecDepth 20000 in
theorem gX2_dawn_X0_beginNext : GoodIn wsX2_dawn (wsV RX2 182 RX0 yX0_beginNext wsX0_beginNext) := goodIn_app (goodIn_of _ (by decide +kernel)) ggX2_dawn_X0_beginNext
theorem dX2_dawn_0 : decode cX2_dawn 0 = .ok (.aload_n 0, 1) := by decide +kernel
theorem dX2_dawn_1 : decode cX2_dawn 1 = .ok (.getfield 19, 3) := by decide +kernel
theorem dX2_dawn_4 : decode cX2_dawn 4 = .ok (.getfield 158, 3) := by decide +kernel
theorem dX2_dawn_7 : decode cX2_dawn 7 = .ok (.sipush 600, 3) := by decide +kernel
theorem dX2_dawn_10 : decode cX2_dawn 10 = .ok (.if_icmp .ge 13, 3) := by decide +kernel
theorem dX2_dawn_13 : decode cX2_dawn 13 = .ok (.new 93, 3) := by decide +kernel
theorem dX2_dawn_16 : decode cX2_dawn 16 = .ok (.dup, 1) := by decide +kernel
theorem dX2_dawn_17 : decode cX2_dawn 17 = .ok (.ldc 180, 2) := by decide +kernel
theorem dX2_dawn_19 : decode cX2_dawn 19 = .ok (.invokespecial 97, 3) := by decide +kernel
theorem dX2_dawn_22 : decode cX2_dawn 22 = .ok (.athrow, 1) := by decide +kernel
theorem dX2_dawn_23 : decode cX2_dawn 23 = .ok (.aload_n 0, 1) := by decide +kernel
theorem dX2_dawn_24 : decode cX2_dawn 24 = .ok (.getfield 19, 3) := by decide +kernel
theorem dX2_dawn_27 : decode cX2_dawn 27 = .ok (.aload_n 0, 1) := by decide +kernel
theorem dX2_dawn_28 : decode cX2_dawn 28 = .ok (.getfield 12, 3) := by decide +kernel
theorem dX2_dawn_31 : decode cX2_dawn 31 = .ok (.invokevirtual 164, 3) := by decide +kernel
theorem dX2_dawn_34 : decode cX2_dawn 34 = .ok (.istore_n 1, 1) := by decide +kernel
theorem dX2_dawn_35 : decode cX2_dawn 35 = .ok (.aload_n 0, 1) := by decide +kernel
theorem dX2_dawn_36 : decode cX2_dawn 36 = .ok (.getfield 19, 3) := by decide +kernel
theorem dX2_dawn_39 : decode cX2_dawn 39 = .ok (.aload_n 0, 1) := by decide +kernel
theorem dX2_dawn_40 : decode cX2_dawn 40 = .ok (.getfield 12, 3) := by decide +kernel
theorem dX2_dawn_43 : decode cX2_dawn 43 = .ok (.invokevirtual 182, 3) := by decide +kernel
theorem dX2_dawn_46 : decode cX2_dawn 46 = .ok (.iload_n 1, 1) := by decide +kernel
theorem dX2_dawn_47 : decode cX2_dawn 47 = .ok (.ireturn, 1) := by decide +kernel
set_option maxRecDepth 20000 in
theorem ggX2_comes_X2_requireIndex : GoodIn wsX2_comes wsX2_requireIndex := goodIn_ca (goodIn_r _ [10, 11, 12] (by decide +kernel) (by decide +kernel)) (goodIn_sub (fun _ h => List.mem_cons_of_mem _ (List.mem_append_right _ h)) (by decide +kernel))
set_option maxRecDepth 20000 in
theorem gX2_comes_X2_requireIndex : GoodIn wsX2_comes (va_wsS RX2 46 yX2_requireIndex wsX2_requireIndex) := goodIn_app (goodIn_of _ (by decide +kernel)) ggX2_comes_X2_requireIndex
set_option maxRecDepth 20000 in
theorem ggX2_comes_X0_copy : GoodIn wsX2_comes wsX0_copy := goodIn_r _ [17, 18, 19, 20, 21, 22, 23, 24, 25, 26, 27, 28, 29, 30, 31, 32, 33, 34, 35, 36, 37, 140, 141, 142, 143, 144, 145, 146, 147, 148, 149, 150, 151, 152, 153, 154, 155] (by decide +kernel) (by decide +kernel)
set_option maxRecDepth 20000 in
theorem gX2_comes_X0_copy : GoodIn wsX2_comes (wsV RX2 186 RX0 yX0_copy wsX0_copy) := goodIn_app (goodIn_of _ (by decide +kernel)) ggX2_comes_X0_copy
set_option maxRecDepth 20000 in
theorem ggX2_comes_X0_goBy : GoodIn wsX2_comes wsX0_goBy := goodIn_r _ [41, 18, 42, 43, 44, 45, 16, 46, 47, 33, 35, 48, 49, 50, 51, 52, 32, 26, 36, 34, 31, 53, 54, 55, 56, 57, 58, 28, 59, 60, 61, 62, 63, 64, 65, 66, 67, 68, 69, 70, 71, 72, 73, 74, 75, 76, 77, 78, 79, 80, 81, 82, 83, 84, 85, 86, 87, 27, 21, 88, 29, 37, 89, 90, 91, 92, 93, 94, 95, 96, 97, 98, 99, 100, 101, 20, 102, 103, 104, 105, 106, 107, 108, 109, 110, 30, 111, 112, 113, 114, 115, 116, 117, 118, 140, 141, 142, 143, 144, 145, 146, 147, 148, 149, 150, 151, 152, 153, 154, 155, 123, 124, 125, 126, 127, 128, 129, 130, 131, 132, 133, 134, 135, 136, 137, 138, 139] (by decide +kernel) (by decide +kernel)
set_option maxRecDepth 20000 in
theorem gX2_comes_X0_goBy : GoodIn wsX2_comes (wsV RX2 177 RX0 yX0_goBy wsX0_goBy) := goodIn_app (goodIn_of _ (by decide +kernel)) ggX2_comes_X0_goBy
theorem dX2_comes_0 : decode cX2_comes 0 = .ok (.iload_n 1, 1) := by decide +kernel
theorem dX2_comes_1 : decode cX2_comes 1 = .ok (.aload_n 0, 1) := by decide +kernel
theorem dX2_comes_2 : decode cX2_comes 2 = .ok (.getfield 12, 3) := by decide +kernel
theorem dX2_comes_5 : decode cX2_comes 5 = .ok (.getfield 63, 3) := by decide +kernel
theorem dX2_comes_8 : decode cX2_comes 8 = .ok (.invokestatic 46, 3) := by decide +kernel
theorem dX2_comes_11 : decode cX2_comes 11 = .ok (.aload_n 0, 1) := by decide +kernel
theorem dX2_comes_12 : decode cX2_comes 12 = .ok (.getfield 23, 3) := by decide +kernel
theorem dX2_comes_15 : decode cX2_comes 15 = .ok (.aload_n 0, 1) := by decide +kernel
theorem dX2_comes_16 : decode cX2_comes 16 = .ok (.getfield 19, 3) := by decide +kernel
theorem dX2_comes_19 : decode cX2_comes 19 = .ok (.invokevirtual 186, 3) := by decide +kernel
theorem dX2_comes_22 : decode cX2_comes 22 = .ok (.sipush 600, 3) := by decide +kernel
theorem dX2_comes_25 : decode cX2_comes 25 = .ok (.aload_n 0, 1) := by decide +kernel
theorem dX2_comes_26 : decode cX2_comes 26 = .ok (.getfield 19, 3) := by decide +kernel
theorem dX2_comes_29 : decode cX2_comes 29 = .ok (.getfield 158, 3) := by decide +kernel
theorem dX2_comes_32 : decode cX2_comes 32 = .ok (.isub, 1) := by decide +kernel
theorem dX2_comes_33 : decode cX2_comes 33 = .ok (.istore_n 2, 1) := by decide +kernel
theorem dX2_comes_34 : decode cX2_comes 34 = .ok (.iconst 1, 1) := by decide +kernel
theorem dX2_comes_35 : decode cX2_comes 35 = .ok (.istore_n 3, 1) := by decide +kernel
theorem dX2_comes_36 : decode cX2_comes 36 = .ok (.iload_n 3, 1) := by decide +kernel
theorem dX2_comes_37 : decode cX2_comes 37 = .ok (.iload_n 2, 1) := by decide +kernel
theorem dX2_comes_38 : decode cX2_comes 38 = .ok (.if_icmp .gt 45, 3) := by decide +kernel
theorem dX2_comes_41 : decode cX2_comes 41 = .ok (.aload_n 0, 1) := by decide +kernel
theorem dX2_comes_42 : decode cX2_comes 42 = .ok (.getfield 23, 3) := by decide +kernel
theorem dX2_comes_45 : decode cX2_comes 45 = .ok (.aload_n 0, 1) := by decide +kernel
theorem dX2_comes_46 : decode cX2_comes 46 = .ok (.getfield 12, 3) := by decide +kernel
theorem dX2_comes_49 : decode cX2_comes 49 = .ok (.iconst 1, 1) := by decide +kernel
theorem dX2_comes_50 : decode cX2_comes 50 = .ok (.invokevirtual 177, 3) := by decide +kernel
theorem dX2_comes_53 : decode cX2_comes 53 = .ok (.pop, 1) := by decide +kernel
theorem dX2_comes_54 : decode cX2_comes 54 = .ok (.aload_n 0, 1) := by decide +kernel
theorem dX2_comes_55 : decode cX2_comes 55 = .ok (.getfield 23, 3) := by decide +kernel
theorem dX2_comes_58 : decode cX2_comes 58 = .ok (.getfield 134, 3) := by decide +kernel
theorem dX2_comes_61 : decode cX2_comes 61 = .ok (.iload_n 1, 1) := by decide +kernel
theorem dX2_comes_62 : decode cX2_comes 62 = .ok (.iaload, 1) := by decide +kernel
theorem dX2_comes_63 : decode cX2_comes 63 = .ok (.aload_n 0, 1) := by decide +kernel
theorem dX2_comes_64 : decode cX2_comes 64 = .ok (.getfield 19, 3) := by decide +kernel
theorem dX2_comes_67 : decode cX2_comes 67 = .ok (.getfield 134, 3) := by decide +kernel
theorem dX2_comes_70 : decode cX2_comes 70 = .ok (.iload_n 1, 1) := by decide +kernel
theorem dX2_comes_71 : decode cX2_comes 71 = .ok (.iaload, 1) := by decide +kernel
theorem dX2_comes_72 : decode cX2_comes 72 = .ok (.if_icmp .eq 5, 3) := by decide +kernel
theorem dX2_comes_75 : decode cX2_comes 75 = .ok (.iload_n 3, 1) := by decide +kernel
theorem dX2_comes_76 : decode cX2_comes 76 = .ok (.ireturn, 1) := by decide +kernel
theorem dX2_comes_77 : decode cX2_comes 77 = .ok (.iinc 3 1, 3) := by decide +kernel
theorem dX2_comes_80 : decode cX2_comes 80 = .ok (.goto (-44), 3) := by decide +kernel
theorem dX2_comes_83 : decode cX2_comes 83 = .ok (.iconst (-1), 1) := by decide +kernel
theorem dX2_comes_84 : decode cX2_comes 84 = .ok (.ireturn, 1) := by decide +kernel
set_option maxRecDepth 20000 in
theorem ggX2_foresee_X2_requireRange : GoodIn wsX2_foresee wsX2_requireRange := goodIn_ca (goodIn_r _ [8, 9, 10] (by decide +kernel) (by decide +kernel)) (goodIn_sub (fun _ h => List.mem_cons_of_mem _ (List.mem_append_left _ (List.mem_append_right _ h))) (by decide +kernel))
set_option maxRecDepth 20000 in
theorem gX2_foresee_X2_requireRange : GoodIn wsX2_foresee (va_wsS RX2 30 yX2_requireRange wsX2_requireRange) := goodIn_app (goodIn_of _ (by decide +kernel)) ggX2_foresee_X2_requireRange
set_option maxRecDepth 20000 in
theorem ggX2_foresee_X2_requireIndex : GoodIn wsX2_foresee wsX2_requireIndex := goodIn_ca (goodIn_r _ [13, 14, 15] (by decide +kernel) (by decide +kernel)) (goodIn_sub (fun _ h => List.mem_cons_of_mem _ (List.mem_append_right _ h)) (by decide +kernel))
set_option maxRecDepth 20000 in
theorem gX2_foresee_X2_requireIndex : GoodIn wsX2_foresee (va_wsS RX2 46 yX2_requireIndex wsX2_requireIndex) := goodIn_app (goodIn_of _ (by decide +kernel)) ggX2_foresee_X2_requireIndex
set_option maxRecDepth 20000 in
theorem ggX2_foresee_X0_copy : GoodIn wsX2_foresee wsX0_copy := goodIn_r _ [20, 21, 22, 23, 24, 25, 26, 27, 28, 29, 30, 31, 32, 33, 34, 35, 36, 37, 38, 39, 40, 139, 140, 141, 142, 143, 144, 145, 146, 147, 148, 149, 150, 151, 152, 153, 154] (by decide +kernel) (by decide +kernel)
set_option maxRecDepth 20000 in
theorem gX2_foresee_X0_copy : GoodIn wsX2_foresee (wsV RX2 186 RX0 yX0_copy wsX0_copy) := goodIn_app (goodIn_of _ (by decide +kernel)) ggX2_foresee_X0_copy
set_option maxRecDepth 20000 in
theorem ggX2_foresee_X0_goBy : GoodIn wsX2_foresee wsX0_goBy := goodIn_r _ [44, 21, 45, 46, 47, 48, 19, 49, 50, 36, 38, 51, 52, 53, 54, 55, 35, 29, 39, 37, 34, 56, 57, 58, 59, 60, 61, 31, 62, 63, 64, 65, 66, 67, 68, 69, 70, 71, 72, 73, 74, 75, 76, 77, 78, 79, 80, 81, 82, 83, 84, 85, 86, 87, 88, 89, 90, 30, 24, 91, 32, 40, 92, 93, 94, 95, 96, 97, 98, 99, 100, 101, 102, 103, 104, 23, 105, 106, 107, 108, 109, 110, 111, 112, 113, 33, 114, 115, 116, 117, 118, 119, 120, 121, 139, 140, 141, 142, 143, 144, 145, 146, 147, 148, 149, 150, 151, 152, 153, 154, 155, 156, 157, 158, 159, 160, 161, 162, 163, 164, 165, 166, 167, 168, 169, 170, 171] (by decide +kernel) (by decide +kernel)
set_option maxRecDepth 20000 in
theorem gX2_foresee_X0_goBy : GoodIn wsX2_foresee (wsV RX2 177 RX0 yX0_goBy wsX0_goBy) := goodIn_app (goodIn_of _ (by decide +kernel)) ggX2_foresee_X0_goBy
set_option maxRecDepth 20000 in
theorem ggX2_foresee_X0_burningLamps : GoodIn wsX2_foresee wsX0_burningLamps := goodIn_r _ [125, 126, 24, 155, 156, 157, 158, 159, 160, 161, 162, 163, 164, 165, 166, 167, 168, 169, 170, 171, 139, 140, 141, 142, 143, 144, 145, 146, 147, 148, 149, 150, 151, 152, 153, 154] (by decide +kernel) (by decide +kernel)
set_option maxRecDepth 20000 in
theorem gX2_foresee_X0_burningLamps : GoodIn wsX2_foresee (wsV RX2 164 RX0 yX0_burningLamps wsX0_burningLamps) := goodIn_app (goodIn_of _ (by decide +kernel)) ggX2_foresee_X0_burningLamps
set_option maxRecDepth 20000 in
theorem ggX2_foresee_X0_darkStreets : GoodIn wsX2_foresee wsX0_darkStreets := goodIn_r _ [130, 126, 131, 132, 133, 19, 134, 24, 155, 156, 157, 158, 159, 160, 161, 162, 163, 164, 165, 166, 167, 168, 169, 170, 171, 139, 140, 141, 142, 143, 144, 145, 146, 147, 148, 149, 150, 151, 152, 153, 154] (by decide +kernel) (by decide +kernel)
set_option maxRecDepth 20000 in
theorem gX2_foresee_X0_darkStreets : GoodIn wsX2_foresee (wsV RX2 168 RX0 yX0_darkStreets wsX0_darkStreets) := goodIn_app (goodIn_of _ (by decide +kernel)) ggX2_foresee_X0_darkStreets
theorem dX2_foresee_0 : decode cX2_foresee 0 = .ok (.iload_n 1, 1) := by decide +kernel
theorem dX2_foresee_1 : decode cX2_foresee 1 = .ok (.iconst 1, 1) := by decide +kernel
theorem dX2_foresee_2 : decode cX2_foresee 2 = .ok (.sipush 600, 3) := by decide +kernel
theorem dX2_foresee_5 : decode cX2_foresee 5 = .ok (.invokestatic 30, 3) := by decide +kernel
theorem dX2_foresee_8 : decode cX2_foresee 8 = .ok (.iload_n 2, 1) := by decide +kernel
theorem dX2_foresee_9 : decode cX2_foresee 9 = .ok (.iconst 3, 1) := by decide +kernel
theorem dX2_foresee_10 : decode cX2_foresee 10 = .ok (.invokestatic 46, 3) := by decide +kernel
theorem dX2_foresee_13 : decode cX2_foresee 13 = .ok (.aload_n 0, 1) := by decide +kernel
theorem dX2_foresee_14 : decode cX2_foresee 14 = .ok (.getfield 23, 3) := by decide +kernel
theorem dX2_foresee_17 : decode cX2_foresee 17 = .ok (.aload_n 0, 1) := by decide +kernel
theorem dX2_foresee_18 : decode cX2_foresee 18 = .ok (.getfield 19, 3) := by decide +kernel
theorem dX2_foresee_21 : decode cX2_foresee 21 = .ok (.invokevirtual 186, 3) := by decide +kernel
theorem dX2_foresee_24 : decode cX2_foresee 24 = .ok (.aload_n 0, 1) := by decide +kernel
theorem dX2_foresee_25 : decode cX2_foresee 25 = .ok (.getfield 23, 3) := by decide +kernel
theorem dX2_foresee_28 : decode cX2_foresee 28 = .ok (.aload_n 0, 1) := by decide +kernel
theorem dX2_foresee_29 : decode cX2_foresee 29 = .ok (.getfield 12, 3) := by decide +kernel
theorem dX2_foresee_32 : decode cX2_foresee 32 = .ok (.iload_n 1, 1) := by decide +kernel
theorem dX2_foresee_33 : decode cX2_foresee 33 = .ok (.invokevirtual 177, 3) := by decide +kernel
theorem dX2_foresee_36 : decode cX2_foresee 36 = .ok (.pop, 1) := by decide +kernel
theorem dX2_foresee_37 : decode cX2_foresee 37 = .ok (.iload_n 2, 1) := by decide +kernel
theorem dX2_foresee_38 : decode cX2_foresee 38 = .ok (.lookupswitch 50 #[(0, 26), (1, 38)], 26) := by decide +kernel
theorem dX2_foresee_64 : decode cX2_foresee 64 = .ok (.aload_n 0, 1) := by decide +kernel
theorem dX2_foresee_65 : decode cX2_foresee 65 = .ok (.getfield 23, 3) := by decide +kernel
theorem dX2_foresee_68 : decode cX2_foresee 68 = .ok (.aload_n 0, 1) := by decide +kernel
theorem dX2_foresee_69 : decode cX2_foresee 69 = .ok (.getfield 12, 3) := by decide +kernel
theorem dX2_foresee_72 : decode cX2_foresee 72 = .ok (.invokevirtual 164, 3) := by decide +kernel
theorem dX2_foresee_75 : decode cX2_foresee 75 = .ok (.ireturn, 1) := by decide +kernel
theorem dX2_foresee_76 : decode cX2_foresee 76 = .ok (.aload_n 0, 1) := by decide +kernel
theorem dX2_foresee_77 : decode cX2_foresee 77 = .ok (.getfield 23, 3) := by decide +kernel
theorem dX2_foresee_80 : decode cX2_foresee 80 = .ok (.aload_n 0, 1) := by decide +kernel
theorem dX2_foresee_81 : decode cX2_foresee 81 = .ok (.getfield 12, 3) := by decide +kernel
theorem dX2_foresee_84 : decode cX2_foresee 84 = .ok (.invokevirtual 168, 3) := by decide +kernel
theorem dX2_foresee_87 : decode cX2_foresee 87 = .ok (.ireturn, 1) := by decide +kernel
theorem dX2_foresee_88 : decode cX2_foresee 88 = .ok (.aload_n 0, 1) := by decide +kernel
theorem dX2_foresee_89 : decode cX2_foresee 89 = .ok (.getfield 23, 3) := by decide +kernel
theorem dX2_foresee_92 : decode cX2_foresee 92 = .ok (.getfield 174, 3) := by decide +kernel
theorem dX2_foresee_95 : decode cX2_foresee 95 = .ok (.aload_n 0, 1) := by decide +kernel
theorem dX2_foresee_96 : decode cX2_foresee 96 = .ok (.getfield 19, 3) := by decide +kernel
theorem dX2_foresee_99 : decode cX2_foresee 99 = .ok (.getfield 174, 3) := by decide +kernel
theorem dX2_foresee_102 : decode cX2_foresee 102 = .ok (.isub, 1) := by decide +kernel
theorem dX2_foresee_103 : decode cX2_foresee 103 = .ok (.ireturn, 1) := by decide +kernel
set_option maxRecDepth 20000 in
theorem ggX2_mean_X0_oilOfLamps : GoodIn wsX2_mean wsX0_oilOfLamps := goodIn_r _ [8, 9, 10, 15, 16, 17, 18, 19, 20, 21, 22, 23, 24, 25, 26, 27, 28, 29, 30, 31, 32, 33, 34, 35, 36, 37, 38, 39, 40, 41, 42, 43, 44, 45, 46, 47] (by decide +kernel) (by decide +kernel)
set_option maxRecDepth 20000 in
theorem gX2_mean_X0_oilOfLamps : GoodIn wsX2_mean (wsV RX2 171 RX0 yX0_oilOfLamps wsX0_oilOfLamps) := goodIn_app (goodIn_of _ (by decide +kernel)) ggX2_mean_X0_oilOfLamps
theorem dX2_mean_0 : decode cX2_mean 0 = .ok (.aload_n 0, 1) := by decide +kernel
theorem dX2_mean_1 : decode cX2_mean 1 = .ok (.getfield 12, 3) := by decide +kernel
theorem dX2_mean_4 : decode cX2_mean 4 = .ok (.getfield 63, 3) := by decide +kernel
theorem dX2_mean_7 : decode cX2_mean 7 = .ok (.ifCond .ne 5, 3) := by decide +kernel
theorem dX2_mean_10 : decode cX2_mean 10 = .ok (.dconst 0, 1) := by decide +kernel
theorem dX2_mean_11 : decode cX2_mean 11 = .ok (.dreturn, 1) := by decide +kernel
theorem dX2_mean_12 : decode cX2_mean 12 = .ok (.aload_n 0, 1) := by decide +kernel
theorem dX2_mean_13 : decode cX2_mean 13 = .ok (.getfield 19, 3) := by decide +kernel
theorem dX2_mean_16 : decode cX2_mean 16 = .ok (.aload_n 0, 1) := by decide +kernel
theorem dX2_mean_17 : decode cX2_mean 17 = .ok (.getfield 12, 3) := by decide +kernel
theorem dX2_mean_20 : decode cX2_mean 20 = .ok (.invokevirtual 171, 3) := by decide +kernel
theorem dX2_mean_23 : decode cX2_mean 23 = .ok (.i2d, 1) := by decide +kernel
theorem dX2_mean_24 : decode cX2_mean 24 = .ok (.aload_n 0, 1) := by decide +kernel
theorem dX2_mean_25 : decode cX2_mean 25 = .ok (.getfield 12, 3) := by decide +kernel
theorem dX2_mean_28 : decode cX2_mean 28 = .ok (.getfield 63, 3) := by decide +kernel
theorem dX2_mean_31 : decode cX2_mean 31 = .ok (.i2d, 1) := by decide +kernel
theorem dX2_mean_32 : decode cX2_mean 32 = .ok (.ddiv, 1) := by decide +kernel
theorem dX2_mean_33 : decode cX2_mean 33 = .ok (.dreturn, 1) := by decide +kernel
theorem dX2_requireIndex_0 : decode cX2_requireIndex 0 = .ok (.iload_n 0, 1) := by decide +kernel
theorem dX2_requireIndex_1 : decode cX2_requireIndex 1 = .ok (.ifCond .lt 8, 3) := by decide +kernel
theorem dX2_requireIndex_4 : decode cX2_requireIndex 4 = .ok (.iload_n 0, 1) := by decide +kernel
theorem dX2_requireIndex_5 : decode cX2_requireIndex 5 = .ok (.iload_n 1, 1) := by decide +kernel
theorem dX2_requireIndex_6 : decode cX2_requireIndex 6 = .ok (.if_icmp .lt 13, 3) := by decide +kernel
theorem dX2_requireIndex_9 : decode cX2_requireIndex 9 = .ok (.new 223, 3) := by decide +kernel
theorem dX2_requireIndex_12 : decode cX2_requireIndex 12 = .ok (.dup, 1) := by decide +kernel
theorem dX2_requireIndex_13 : decode cX2_requireIndex 13 = .ok (.ldc 225, 2) := by decide +kernel
theorem dX2_requireIndex_15 : decode cX2_requireIndex 15 = .ok (.invokespecial 227, 3) := by decide +kernel
theorem dX2_requireIndex_18 : decode cX2_requireIndex 18 = .ok (.athrow, 1) := by decide +kernel
theorem dX2_requireIndex_19 : decode cX2_requireIndex 19 = .ok (.return_, 1) := by decide +kernel
theorem dX2_requireRange_0 : decode cX2_requireRange 0 = .ok (.iload_n 0, 1) := by decide +kernel
theorem dX2_requireRange_1 : decode cX2_requireRange 1 = .ok (.iload_n 1, 1) := by decide +kernel
theorem dX2_requireRange_2 : decode cX2_requireRange 2 = .ok (.if_icmp .lt 8, 3) := by decide +kernel
theorem dX2_requireRange_5 : decode cX2_requireRange 5 = .ok (.iload_n 0, 1) := by decide +kernel
theorem dX2_requireRange_6 : decode cX2_requireRange 6 = .ok (.iload_n 2, 1) := by decide +kernel
theorem dX2_requireRange_7 : decode cX2_requireRange 7 = .ok (.if_icmp .le 13, 3) := by decide +kernel
theorem dX2_requireRange_10 : decode cX2_requireRange 10 = .ok (.new 49, 3) := by decide +kernel
theorem dX2_requireRange_13 : decode cX2_requireRange 13 = .ok (.dup, 1) := by decide +kernel
theorem dX2_requireRange_14 : decode cX2_requireRange 14 = .ok (.ldc 228, 2) := by decide +kernel
theorem dX2_requireRange_16 : decode cX2_requireRange 16 = .ok (.invokespecial 53, 3) := by decide +kernel
theorem dX2_requireRange_19 : decode cX2_requireRange 19 = .ok (.athrow, 1) := by decide +kernel
theorem dX2_requireRange_20 : decode cX2_requireRange 20 = .ok (.return_, 1) := by decide +kernel
theorem dX2_requireRoom_0 : decode cX2_requireRoom 0 = .ok (.iload_n 0, 1) := by decide +kernel
theorem dX2_requireRoom_1 : decode cX2_requireRoom 1 = .ok (.iload_n 1, 1) := by decide +kernel
theorem dX2_requireRoom_2 : decode cX2_requireRoom 2 = .ok (.if_icmp .lt 13, 3) := by decide +kernel
theorem dX2_requireRoom_5 : decode cX2_requireRoom 5 = .ok (.new 93, 3) := by decide +kernel
theorem dX2_requireRoom_8 : decode cX2_requireRoom 8 = .ok (.dup, 1) := by decide +kernel
theorem dX2_requireRoom_9 : decode cX2_requireRoom 9 = .ok (.ldc 230, 2) := by decide +kernel
theorem dX2_requireRoom_11 : decode cX2_requireRoom 11 = .ok (.invokespecial 97, 3) := by decide +kernel
theorem dX2_requireRoom_14 : decode cX2_requireRoom 14 = .ok (.athrow, 1) := by decide +kernel
theorem dX2_requireRoom_15 : decode cX2_requireRoom 15 = .ok (.return_, 1) := by decide +kernel
