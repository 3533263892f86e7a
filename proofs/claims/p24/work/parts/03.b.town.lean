theorem dX1_init_0 : decode cX1_init 0 = .ok (.aload_n 0, 1) := by decide +kernel
theorem dX1_init_1 : decode cX1_init 1 = .ok (.invokespecial 3, 3) := by decide +kernel
theorem dX1_init_4 : decode cX1_init 4 = .ok (.aload_n 0, 1) := by decide +kernel
theorem dX1_init_5 : decode cX1_init 5 = .ok (.bipush 12, 2) := by decide +kernel
theorem dX1_init_7 : decode cX1_init 7 = .ok (.newarray .int, 2) := by decide +kernel
theorem dX1_init_9 : decode cX1_init 9 = .ok (.putfield 9, 3) := by decide +kernel
theorem dX1_init_12 : decode cX1_init 12 = .ok (.aload_n 0, 1) := by decide +kernel
theorem dX1_init_13 : decode cX1_init 13 = .ok (.bipush 12, 2) := by decide +kernel
theorem dX1_init_15 : decode cX1_init 15 = .ok (.bipush 12, 2) := by decide +kernel
theorem dX1_init_17 : decode cX1_init 17 = .ok (.multianewarray 15 2, 4) := by decide +kernel
theorem dX1_init_21 : decode cX1_init 21 = .ok (.putfield 17, 3) := by decide +kernel
theorem dX1_init_24 : decode cX1_init 24 = .ok (.aload_n 0, 1) := by decide +kernel
theorem dX1_init_25 : decode cX1_init 25 = .ok (.bipush 18, 2) := by decide +kernel
theorem dX1_init_27 : decode cX1_init 27 = .ok (.newarray .int, 2) := by decide +kernel
theorem dX1_init_29 : decode cX1_init 29 = .ok (.putfield 20, 3) := by decide +kernel
theorem dX1_init_32 : decode cX1_init 32 = .ok (.aload_n 0, 1) := by decide +kernel
theorem dX1_init_33 : decode cX1_init 33 = .ok (.bipush 18, 2) := by decide +kernel
theorem dX1_init_35 : decode cX1_init 35 = .ok (.newarray .int, 2) := by decide +kernel
theorem dX1_init_37 : decode cX1_init 37 = .ok (.putfield 23, 3) := by decide +kernel
theorem dX1_init_40 : decode cX1_init 40 = .ok (.aload_n 0, 1) := by decide +kernel
theorem dX1_init_41 : decode cX1_init 41 = .ok (.bipush 18, 2) := by decide +kernel
theorem dX1_init_43 : decode cX1_init 43 = .ok (.newarray .int, 2) := by decide +kernel
theorem dX1_init_45 : decode cX1_init 45 = .ok (.putfield 26, 3) := by decide +kernel
theorem dX1_init_48 : decode cX1_init 48 = .ok (.aload_n 0, 1) := by decide +kernel
theorem dX1_init_49 : decode cX1_init 49 = .ok (.bipush 20, 2) := by decide +kernel
theorem dX1_init_51 : decode cX1_init 51 = .ok (.newarray .int, 2) := by decide +kernel
theorem dX1_init_53 : decode cX1_init 53 = .ok (.putfield 29, 3) := by decide +kernel
theorem dX1_init_56 : decode cX1_init 56 = .ok (.aload_n 0, 1) := by decide +kernel
theorem dX1_init_57 : decode cX1_init 57 = .ok (.bipush 20, 2) := by decide +kernel
theorem dX1_init_59 : decode cX1_init 59 = .ok (.newarray .int, 2) := by decide +kernel
theorem dX1_init_61 : decode cX1_init 61 = .ok (.putfield 32, 3) := by decide +kernel
theorem dX1_init_64 : decode cX1_init 64 = .ok (.aload_n 0, 1) := by decide +kernel
theorem dX1_init_65 : decode cX1_init 65 = .ok (.bipush 20, 2) := by decide +kernel
theorem dX1_init_67 : decode cX1_init 67 = .ok (.newarray .int, 2) := by decide +kernel
theorem dX1_init_69 : decode cX1_init 69 = .ok (.putfield 35, 3) := by decide +kernel
theorem dX1_init_72 : decode cX1_init 72 = .ok (.aload_n 0, 1) := by decide +kernel
theorem dX1_init_73 : decode cX1_init 73 = .ok (.bipush 10, 2) := by decide +kernel
theorem dX1_init_75 : decode cX1_init 75 = .ok (.newarray .int, 2) := by decide +kernel
theorem dX1_init_77 : decode cX1_init 77 = .ok (.putfield 38, 3) := by decide +kernel
theorem dX1_init_80 : decode cX1_init 80 = .ok (.aload_n 0, 1) := by decide +kernel
theorem dX1_init_81 : decode cX1_init 81 = .ok (.iconst 4, 1) := by decide +kernel
theorem dX1_init_82 : decode cX1_init 82 = .ok (.newarray .int, 2) := by decide +kernel
theorem dX1_init_84 : decode cX1_init 84 = .ok (.putfield 41, 3) := by decide +kernel
theorem dX1_init_87 : decode cX1_init 87 = .ok (.aload_n 0, 1) := by decide +kernel
theorem dX1_init_88 : decode cX1_init 88 = .ok (.iconst 4, 1) := by decide +kernel
theorem dX1_init_89 : decode cX1_init 89 = .ok (.newarray .int, 2) := by decide +kernel
theorem dX1_init_91 : decode cX1_init 91 = .ok (.putfield 44, 3) := by decide +kernel
theorem dX1_init_94 : decode cX1_init 94 = .ok (.aload_n 0, 1) := by decide +kernel
theorem dX1_init_95 : decode cX1_init 95 = .ok (.iconst 4, 1) := by decide +kernel
theorem dX1_init_96 : decode cX1_init 96 = .ok (.newarray .int, 2) := by decide +kernel
theorem dX1_init_98 : decode cX1_init 98 = .ok (.putfield 47, 3) := by decide +kernel
theorem dX1_init_101 : decode cX1_init 101 = .ok (.aload_n 0, 1) := by decide +kernel
theorem dX1_init_102 : decode cX1_init 102 = .ok (.iconst 4, 1) := by decide +kernel
theorem dX1_init_103 : decode cX1_init 103 = .ok (.bipush 10, 2) := by decide +kernel
theorem dX1_init_105 : decode cX1_init 105 = .ok (.multianewarray 15 2, 4) := by decide +kernel
theorem dX1_init_109 : decode cX1_init 109 = .ok (.putfield 50, 3) := by decide +kernel
theorem dX1_init_112 : decode cX1_init 112 = .ok (.return_, 1) := by decide +kernel
theorem dX1_addCorner_0 : decode cX1_addCorner 0 = .ok (.aload_n 0, 1) := by decide +kernel
theorem dX1_addCorner_1 : decode cX1_addCorner 1 = .ok (.getfield 53, 3) := by decide +kernel
theorem dX1_addCorner_4 : decode cX1_addCorner 4 = .ok (.istore_n 2, 1) := by decide +kernel
theorem dX1_addCorner_5 : decode cX1_addCorner 5 = .ok (.aload_n 0, 1) := by decide +kernel
theorem dX1_addCorner_6 : decode cX1_addCorner 6 = .ok (.getfield 9, 3) := by decide +kernel
theorem dX1_addCorner_9 : decode cX1_addCorner 9 = .ok (.iload_n 2, 1) := by decide +kernel
theorem dX1_addCorner_10 : decode cX1_addCorner 10 = .ok (.iload_n 1, 1) := by decide +kernel
theorem dX1_addCorner_11 : decode cX1_addCorner 11 = .ok (.iastore, 1) := by decide +kernel
theorem dX1_addCorner_12 : decode cX1_addCorner 12 = .ok (.iconst 0, 1) := by decide +kernel
theorem dX1_addCorner_13 : decode cX1_addCorner 13 = .ok (.istore_n 3, 1) := by decide +kernel
theorem dX1_addCorner_14 : decode cX1_addCorner 14 = .ok (.iload_n 3, 1) := by decide +kernel
theorem dX1_addCorner_15 : decode cX1_addCorner 15 = .ok (.iload_n 2, 1) := by decide +kernel
theorem dX1_addCorner_16 : decode cX1_addCorner 16 = .ok (.if_icmp .ge 29, 3) := by decide +kernel
theorem dX1_addCorner_19 : decode cX1_addCorner 19 = .ok (.aload_n 0, 1) := by decide +kernel
theorem dX1_addCorner_20 : decode cX1_addCorner 20 = .ok (.getfield 17, 3) := by decide +kernel
theorem dX1_addCorner_23 : decode cX1_addCorner 23 = .ok (.iload_n 2, 1) := by decide +kernel
theorem dX1_addCorner_24 : decode cX1_addCorner 24 = .ok (.aaload, 1) := by decide +kernel
theorem dX1_addCorner_25 : decode cX1_addCorner 25 = .ok (.iload_n 3, 1) := by decide +kernel
theorem dX1_addCorner_26 : decode cX1_addCorner 26 = .ok (.ldc 57, 2) := by decide +kernel
theorem dX1_addCorner_28 : decode cX1_addCorner 28 = .ok (.iastore, 1) := by decide +kernel
theorem dX1_addCorner_29 : decode cX1_addCorner 29 = .ok (.aload_n 0, 1) := by decide +kernel
theorem dX1_addCorner_30 : decode cX1_addCorner 30 = .ok (.getfield 17, 3) := by decide +kernel
theorem dX1_addCorner_33 : decode cX1_addCorner 33 = .ok (.iload_n 3, 1) := by decide +kernel
theorem dX1_addCorner_34 : decode cX1_addCorner 34 = .ok (.aaload, 1) := by decide +kernel
theorem dX1_addCorner_35 : decode cX1_addCorner 35 = .ok (.iload_n 2, 1) := by decide +kernel
theorem dX1_addCorner_36 : decode cX1_addCorner 36 = .ok (.ldc 57, 2) := by decide +kernel
theorem dX1_addCorner_38 : decode cX1_addCorner 38 = .ok (.iastore, 1) := by decide +kernel
theorem dX1_addCorner_39 : decode cX1_addCorner 39 = .ok (.iinc 3 1, 3) := by decide +kernel
theorem dX1_addCorner_42 : decode cX1_addCorner 42 = .ok (.goto (-28), 3) := by decide +kernel
theorem dX1_addCorner_45 : decode cX1_addCorner 45 = .ok (.aload_n 0, 1) := by decide +kernel
theorem dX1_addCorner_46 : decode cX1_addCorner 46 = .ok (.getfield 17, 3) := by decide +kernel
theorem dX1_addCorner_49 : decode cX1_addCorner 49 = .ok (.iload_n 2, 1) := by decide +kernel
theorem dX1_addCorner_50 : decode cX1_addCorner 50 = .ok (.aaload, 1) := by decide +kernel
theorem dX1_addCorner_51 : decode cX1_addCorner 51 = .ok (.iload_n 2, 1) := by decide +kernel
theorem dX1_addCorner_52 : decode cX1_addCorner 52 = .ok (.iconst 0, 1) := by decide +kernel
theorem dX1_addCorner_53 : decode cX1_addCorner 53 = .ok (.iastore, 1) := by decide +kernel
theorem dX1_addCorner_54 : decode cX1_addCorner 54 = .ok (.aload_n 0, 1) := by decide +kernel
theorem dX1_addCorner_55 : decode cX1_addCorner 55 = .ok (.dup, 1) := by decide +kernel
theorem dX1_addCorner_56 : decode cX1_addCorner 56 = .ok (.getfield 53, 3) := by decide +kernel
theorem dX1_addCorner_59 : decode cX1_addCorner 59 = .ok (.iconst 1, 1) := by decide +kernel
theorem dX1_addCorner_60 : decode cX1_addCorner 60 = .ok (.iadd, 1) := by decide +kernel
theorem dX1_addCorner_61 : decode cX1_addCorner 61 = .ok (.putfield 53, 3) := by decide +kernel
theorem dX1_addCorner_64 : decode cX1_addCorner 64 = .ok (.iload_n 2, 1) := by decide +kernel
theorem dX1_addCorner_65 : decode cX1_addCorner 65 = .ok (.ireturn, 1) := by decide +kernel
set_option maxRecDepth 20000 in
theorem ggX1_addStreet_X1_minutesAlong : GoodIn wsX1_addStreet wsX1_minutesAlong := goodIn_r _ [9, 10, 11, 12, 13, 14, 24, 25, 26, 27, 28, 29, 30, 31, 32, 33, 34, 35, 36, 37, 38, 39, 40] (by decide +kernel) (by decide +kernel)
set_option maxRecDepth 20000 in
theorem gX1_addStreet_X1_minutesAlong : GoodIn wsX1_addStreet (wsV RX1 61 RX1 yX1_minutesAlong wsX1_minutesAlong) := goodIn_app (goodIn_of _ (by decide +kernel)) ggX1_addStreet_X1_minutesAlong
set_option maxRecDepth 20000 in
theorem ggX1_addStreet_X1_shortenWays : GoodIn wsX1_addStreet wsX1_shortenWays := goodIn_r _ [18, 19, 20, 21, 22, 13, 23, 24, 25, 26, 27, 28, 29, 30, 31, 32, 33, 34, 35, 36, 37, 38, 39, 40] (by decide +kernel) (by decide +kernel)
set_option maxRecDepth 20000 in
theorem gX1_addStreet_X1_shortenWays : GoodIn wsX1_addStreet (wsV RX1 65 RX1 yX1_shortenWays wsX1_shortenWays) := goodIn_app (goodIn_of _ (by decide +kernel)) ggX1_addStreet_X1_shortenWays
theorem dX1_addStreet_0 : decode cX1_addStreet 0 = .ok (.aload_n 0, 1) := by decide +kernel
theorem dX1_addStreet_1 : decode cX1_addStreet 1 = .ok (.getfield 58, 3) := by decide +kernel
theorem dX1_addStreet_4 : decode cX1_addStreet 4 = .ok (.istore 4, 2) := by decide +kernel
theorem dX1_addStreet_6 : decode cX1_addStreet 6 = .ok (.aload_n 0, 1) := by decide +kernel
theorem dX1_addStreet_7 : decode cX1_addStreet 7 = .ok (.getfield 20, 3) := by decide +kernel
theorem dX1_addStreet_10 : decode cX1_addStreet 10 = .ok (.iload 4, 2) := by decide +kernel
theorem dX1_addStreet_12 : decode cX1_addStreet 12 = .ok (.iload_n 1, 1) := by decide +kernel
theorem dX1_addStreet_13 : decode cX1_addStreet 13 = .ok (.iastore, 1) := by decide +kernel
theorem dX1_addStreet_14 : decode cX1_addStreet 14 = .ok (.aload_n 0, 1) := by decide +kernel
theorem dX1_addStreet_15 : decode cX1_addStreet 15 = .ok (.getfield 23, 3) := by decide +kernel
theorem dX1_addStreet_18 : decode cX1_addStreet 18 = .ok (.iload 4, 2) := by decide +kernel
theorem dX1_addStreet_20 : decode cX1_addStreet 20 = .ok (.iload_n 2, 1) := by decide +kernel
theorem dX1_addStreet_21 : decode cX1_addStreet 21 = .ok (.iastore, 1) := by decide +kernel
theorem dX1_addStreet_22 : decode cX1_addStreet 22 = .ok (.aload_n 0, 1) := by decide +kernel
theorem dX1_addStreet_23 : decode cX1_addStreet 23 = .ok (.getfield 26, 3) := by decide +kernel
theorem dX1_addStreet_26 : decode cX1_addStreet 26 = .ok (.iload 4, 2) := by decide +kernel
theorem dX1_addStreet_28 : decode cX1_addStreet 28 = .ok (.iload_n 3, 1) := by decide +kernel
theorem dX1_addStreet_29 : decode cX1_addStreet 29 = .ok (.iastore, 1) := by decide +kernel
theorem dX1_addStreet_30 : decode cX1_addStreet 30 = .ok (.aload_n 0, 1) := by decide +kernel
theorem dX1_addStreet_31 : decode cX1_addStreet 31 = .ok (.dup, 1) := by decide +kernel
theorem dX1_addStreet_32 : decode cX1_addStreet 32 = .ok (.getfield 58, 3) := by decide +kernel
theorem dX1_addStreet_35 : decode cX1_addStreet 35 = .ok (.iconst 1, 1) := by decide +kernel
theorem dX1_addStreet_36 : decode cX1_addStreet 36 = .ok (.iadd, 1) := by decide +kernel
theorem dX1_addStreet_37 : decode cX1_addStreet 37 = .ok (.putfield 58, 3) := by decide +kernel
theorem dX1_addStreet_40 : decode cX1_addStreet 40 = .ok (.aload_n 0, 1) := by decide +kernel
theorem dX1_addStreet_41 : decode cX1_addStreet 41 = .ok (.iload_n 1, 1) := by decide +kernel
theorem dX1_addStreet_42 : decode cX1_addStreet 42 = .ok (.iload_n 2, 1) := by decide +kernel
theorem dX1_addStreet_43 : decode cX1_addStreet 43 = .ok (.aload_n 0, 1) := by decide +kernel
theorem dX1_addStreet_44 : decode cX1_addStreet 44 = .ok (.iload_n 1, 1) := by decide +kernel
theorem dX1_addStreet_45 : decode cX1_addStreet 45 = .ok (.iload_n 2, 1) := by decide +kernel
theorem dX1_addStreet_46 : decode cX1_addStreet 46 = .ok (.iload_n 3, 1) := by decide +kernel
theorem dX1_addStreet_47 : decode cX1_addStreet 47 = .ok (.invokevirtual 61, 3) := by decide +kernel
theorem dX1_addStreet_50 : decode cX1_addStreet 50 = .ok (.invokevirtual 65, 3) := by decide +kernel
theorem dX1_addStreet_53 : decode cX1_addStreet 53 = .ok (.aload_n 0, 1) := by decide +kernel
theorem dX1_addStreet_54 : decode cX1_addStreet 54 = .ok (.iload_n 2, 1) := by decide +kernel
theorem dX1_addStreet_55 : decode cX1_addStreet 55 = .ok (.iload_n 1, 1) := by decide +kernel
theorem dX1_addStreet_56 : decode cX1_addStreet 56 = .ok (.aload_n 0, 1) := by decide +kernel
theorem dX1_addStreet_57 : decode cX1_addStreet 57 = .ok (.iload_n 2, 1) := by decide +kernel
theorem dX1_addStreet_58 : decode cX1_addStreet 58 = .ok (.iload_n 1, 1) := by decide +kernel
theorem dX1_addStreet_59 : decode cX1_addStreet 59 = .ok (.iload_n 3, 1) := by decide +kernel
theorem dX1_addStreet_60 : decode cX1_addStreet 60 = .ok (.invokevirtual 61, 3) := by decide +kernel
theorem dX1_addStreet_63 : decode cX1_addStreet 63 = .ok (.invokevirtual 65, 3) := by decide +kernel
theorem dX1_addStreet_66 : decode cX1_addStreet 66 = .ok (.iload 4, 2) := by decide +kernel
theorem dX1_addStreet_68 : decode cX1_addStreet 68 = .ok (.ireturn, 1) := by decide +kernel
theorem dX1_addLamp_0 : decode cX1_addLamp 0 = .ok (.aload_n 0, 1) := by decide +kernel
theorem dX1_addLamp_1 : decode cX1_addLamp 1 = .ok (.getfield 69, 3) := by decide +kernel
theorem dX1_addLamp_4 : decode cX1_addLamp 4 = .ok (.istore_n 3, 1) := by decide +kernel
theorem dX1_addLamp_5 : decode cX1_addLamp 5 = .ok (.aload_n 0, 1) := by decide +kernel
theorem dX1_addLamp_6 : decode cX1_addLamp 6 = .ok (.getfield 29, 3) := by decide +kernel
theorem dX1_addLamp_9 : decode cX1_addLamp 9 = .ok (.iload_n 3, 1) := by decide +kernel
theorem dX1_addLamp_10 : decode cX1_addLamp 10 = .ok (.iload_n 1, 1) := by decide +kernel
theorem dX1_addLamp_11 : decode cX1_addLamp 11 = .ok (.iastore, 1) := by decide +kernel
theorem dX1_addLamp_12 : decode cX1_addLamp 12 = .ok (.aload_n 0, 1) := by decide +kernel
theorem dX1_addLamp_13 : decode cX1_addLamp 13 = .ok (.getfield 32, 3) := by decide +kernel
theorem dX1_addLamp_16 : decode cX1_addLamp 16 = .ok (.iload_n 3, 1) := by decide +kernel
theorem dX1_addLamp_17 : decode cX1_addLamp 17 = .ok (.iload_n 2, 1) := by decide +kernel
theorem dX1_addLamp_18 : decode cX1_addLamp 18 = .ok (.iastore, 1) := by decide +kernel
theorem dX1_addLamp_19 : decode cX1_addLamp 19 = .ok (.aload_n 0, 1) := by decide +kernel
theorem dX1_addLamp_20 : decode cX1_addLamp 20 = .ok (.dup, 1) := by decide +kernel
theorem dX1_addLamp_21 : decode cX1_addLamp 21 = .ok (.getfield 69, 3) := by decide +kernel
theorem dX1_addLamp_24 : decode cX1_addLamp 24 = .ok (.iconst 1, 1) := by decide +kernel
theorem dX1_addLamp_25 : decode cX1_addLamp 25 = .ok (.iadd, 1) := by decide +kernel
theorem dX1_addLamp_26 : decode cX1_addLamp 26 = .ok (.putfield 69, 3) := by decide +kernel
theorem dX1_addLamp_29 : decode cX1_addLamp 29 = .ok (.iload_n 3, 1) := by decide +kernel
theorem dX1_addLamp_30 : decode cX1_addLamp 30 = .ok (.ireturn, 1) := by decide +kernel
theorem dX1_addLighter_0 : decode cX1_addLighter 0 = .ok (.aload_n 0, 1) := by decide +kernel
theorem dX1_addLighter_1 : decode cX1_addLighter 1 = .ok (.getfield 72, 3) := by decide +kernel
theorem dX1_addLighter_4 : decode cX1_addLighter 4 = .ok (.istore_n 3, 1) := by decide +kernel
theorem dX1_addLighter_5 : decode cX1_addLighter 5 = .ok (.aload_n 0, 1) := by decide +kernel
theorem dX1_addLighter_6 : decode cX1_addLighter 6 = .ok (.getfield 41, 3) := by decide +kernel
theorem dX1_addLighter_9 : decode cX1_addLighter 9 = .ok (.iload_n 3, 1) := by decide +kernel
theorem dX1_addLighter_10 : decode cX1_addLighter 10 = .ok (.iload_n 1, 1) := by decide +kernel
theorem dX1_addLighter_11 : decode cX1_addLighter 11 = .ok (.iastore, 1) := by decide +kernel
theorem dX1_addLighter_12 : decode cX1_addLighter 12 = .ok (.aload_n 0, 1) := by decide +kernel
theorem dX1_addLighter_13 : decode cX1_addLighter 13 = .ok (.getfield 44, 3) := by decide +kernel
theorem dX1_addLighter_16 : decode cX1_addLighter 16 = .ok (.iload_n 3, 1) := by decide +kernel
theorem dX1_addLighter_17 : decode cX1_addLighter 17 = .ok (.iload_n 2, 1) := by decide +kernel
theorem dX1_addLighter_18 : decode cX1_addLighter 18 = .ok (.iastore, 1) := by decide +kernel
theorem dX1_addLighter_19 : decode cX1_addLighter 19 = .ok (.aload_n 0, 1) := by decide +kernel
theorem dX1_addLighter_20 : decode cX1_addLighter 20 = .ok (.dup, 1) := by decide +kernel
theorem dX1_addLighter_21 : decode cX1_addLighter 21 = .ok (.getfield 72, 3) := by decide +kernel
theorem dX1_addLighter_24 : decode cX1_addLighter 24 = .ok (.iconst 1, 1) := by decide +kernel
theorem dX1_addLighter_25 : decode cX1_addLighter 25 = .ok (.iadd, 1) := by decide +kernel
theorem dX1_addLighter_26 : decode cX1_addLighter 26 = .ok (.putfield 72, 3) := by decide +kernel
theorem dX1_addLighter_29 : decode cX1_addLighter 29 = .ok (.iload_n 3, 1) := by decide +kernel
theorem dX1_addLighter_30 : decode cX1_addLighter 30 = .ok (.ireturn, 1) := by decide +kernel
theorem dX1_addToRound_0 : decode cX1_addToRound 0 = .ok (.aload_n 0, 1) := by decide +kernel
theorem dX1_addToRound_1 : decode cX1_addToRound 1 = .ok (.getfield 50, 3) := by decide +kernel
theorem dX1_addToRound_4 : decode cX1_addToRound 4 = .ok (.iload_n 1, 1) := by decide +kernel
theorem dX1_addToRound_5 : decode cX1_addToRound 5 = .ok (.aaload, 1) := by decide +kernel
theorem dX1_addToRound_6 : decode cX1_addToRound 6 = .ok (.aload_n 0, 1) := by decide +kernel
theorem dX1_addToRound_7 : decode cX1_addToRound 7 = .ok (.getfield 47, 3) := by decide +kernel
theorem dX1_addToRound_10 : decode cX1_addToRound 10 = .ok (.iload_n 1, 1) := by decide +kernel
theorem dX1_addToRound_11 : decode cX1_addToRound 11 = .ok (.iaload, 1) := by decide +kernel
theorem dX1_addToRound_12 : decode cX1_addToRound 12 = .ok (.iload_n 2, 1) := by decide +kernel
theorem dX1_addToRound_13 : decode cX1_addToRound 13 = .ok (.iastore, 1) := by decide +kernel
theorem dX1_addToRound_14 : decode cX1_addToRound 14 = .ok (.aload_n 0, 1) := by decide +kernel
theorem dX1_addToRound_15 : decode cX1_addToRound 15 = .ok (.getfield 47, 3) := by decide +kernel
theorem dX1_addToRound_18 : decode cX1_addToRound 18 = .ok (.iload_n 1, 1) := by decide +kernel
theorem dX1_addToRound_19 : decode cX1_addToRound 19 = .ok (.dup2, 1) := by decide +kernel
theorem dX1_addToRound_20 : decode cX1_addToRound 20 = .ok (.iaload, 1) := by decide +kernel
theorem dX1_addToRound_21 : decode cX1_addToRound 21 = .ok (.iconst 1, 1) := by decide +kernel
theorem dX1_addToRound_22 : decode cX1_addToRound 22 = .ok (.iadd, 1) := by decide +kernel
theorem dX1_addToRound_23 : decode cX1_addToRound 23 = .ok (.iastore, 1) := by decide +kernel
theorem dX1_addToRound_24 : decode cX1_addToRound 24 = .ok (.aload_n 0, 1) := by decide +kernel
theorem dX1_addToRound_25 : decode cX1_addToRound 25 = .ok (.getfield 47, 3) := by decide +kernel
theorem dX1_addToRound_28 : decode cX1_addToRound 28 = .ok (.iload_n 1, 1) := by decide +kernel
theorem dX1_addToRound_29 : decode cX1_addToRound 29 = .ok (.iaload, 1) := by decide +kernel
theorem dX1_addToRound_30 : decode cX1_addToRound 30 = .ok (.ireturn, 1) := by decide +kernel
theorem dX1_isInRound_0 : decode cX1_isInRound 0 = .ok (.iconst 0, 1) := by decide +kernel
theorem dX1_isInRound_1 : decode cX1_isInRound 1 = .ok (.istore_n 3, 1) := by decide +kernel
theorem dX1_isInRound_2 : decode cX1_isInRound 2 = .ok (.iload_n 3, 1) := by decide +kernel
theorem dX1_isInRound_3 : decode cX1_isInRound 3 = .ok (.aload_n 0, 1) := by decide +kernel
theorem dX1_isInRound_4 : decode cX1_isInRound 4 = .ok (.getfield 47, 3) := by decide +kernel
theorem dX1_isInRound_7 : decode cX1_isInRound 7 = .ok (.iload_n 1, 1) := by decide +kernel
theorem dX1_isInRound_8 : decode cX1_isInRound 8 = .ok (.iaload, 1) := by decide +kernel
theorem dX1_isInRound_9 : decode cX1_isInRound 9 = .ok (.if_icmp .ge 23, 3) := by decide +kernel
theorem dX1_isInRound_12 : decode cX1_isInRound 12 = .ok (.aload_n 0, 1) := by decide +kernel
theorem dX1_isInRound_13 : decode cX1_isInRound 13 = .ok (.getfield 50, 3) := by decide +kernel
theorem dX1_isInRound_16 : decode cX1_isInRound 16 = .ok (.iload_n 1, 1) := by decide +kernel
theorem dX1_isInRound_17 : decode cX1_isInRound 17 = .ok (.aaload, 1) := by decide +kernel
theorem dX1_isInRound_18 : decode cX1_isInRound 18 = .ok (.iload_n 3, 1) := by decide +kernel
theorem dX1_isInRound_19 : decode cX1_isInRound 19 = .ok (.iaload, 1) := by decide +kernel
theorem dX1_isInRound_20 : decode cX1_isInRound 20 = .ok (.iload_n 2, 1) := by decide +kernel
theorem dX1_isInRound_21 : decode cX1_isInRound 21 = .ok (.if_icmp .ne 5, 3) := by decide +kernel
theorem dX1_isInRound_24 : decode cX1_isInRound 24 = .ok (.iconst 1, 1) := by decide +kernel
theorem dX1_isInRound_25 : decode cX1_isInRound 25 = .ok (.ireturn, 1) := by decide +kernel
theorem dX1_isInRound_26 : decode cX1_isInRound 26 = .ok (.iinc 3 1, 3) := by decide +kernel
theorem dX1_isInRound_29 : decode cX1_isInRound 29 = .ok (.goto (-27), 3) := by decide +kernel
theorem dX1_isInRound_32 : decode cX1_isInRound 32 = .ok (.iconst 0, 1) := by decide +kernel
theorem dX1_isInRound_33 : decode cX1_isInRound 33 = .ok (.ireturn, 1) := by decide +kernel
theorem dX1_minutesAlong_0 : decode cX1_minutesAlong 0 = .ok (.iload_n 3, 1) := by decide +kernel
theorem dX1_minutesAlong_1 : decode cX1_minutesAlong 1 = .ok (.iconst 0, 1) := by decide +kernel
theorem dX1_minutesAlong_2 : decode cX1_minutesAlong 2 = .ok (.aload_n 0, 1) := by decide +kernel
theorem dX1_minutesAlong_3 : decode cX1_minutesAlong 3 = .ok (.getfield 9, 3) := by decide +kernel
theorem dX1_minutesAlong_6 : decode cX1_minutesAlong 6 = .ok (.iload_n 2, 1) := by decide +kernel
theorem dX1_minutesAlong_7 : decode cX1_minutesAlong 7 = .ok (.iaload, 1) := by decide +kernel
theorem dX1_minutesAlong_8 : decode cX1_minutesAlong 8 = .ok (.aload_n 0, 1) := by decide +kernel
theorem dX1_minutesAlong_9 : decode cX1_minutesAlong 9 = .ok (.getfield 9, 3) := by decide +kernel
theorem dX1_minutesAlong_12 : decode cX1_minutesAlong 12 = .ok (.iload_n 1, 1) := by decide +kernel
theorem dX1_minutesAlong_13 : decode cX1_minutesAlong 13 = .ok (.iaload, 1) := by decide +kernel
theorem dX1_minutesAlong_14 : decode cX1_minutesAlong 14 = .ok (.isub, 1) := by decide +kernel
theorem dX1_minutesAlong_15 : decode cX1_minutesAlong 15 = .ok (.invokestatic 75, 3) := by decide +kernel
theorem dX1_minutesAlong_18 : decode cX1_minutesAlong 18 = .ok (.iconst 2, 1) := by decide +kernel
theorem dX1_minutesAlong_19 : decode cX1_minutesAlong 19 = .ok (.idiv, 1) := by decide +kernel
theorem dX1_minutesAlong_20 : decode cX1_minutesAlong 20 = .ok (.iadd, 1) := by decide +kernel
theorem dX1_minutesAlong_21 : decode cX1_minutesAlong 21 = .ok (.ireturn, 1) := by decide +kernel
theorem dX1_shortenWays_0 : decode cX1_shortenWays 0 = .ok (.iconst 0, 1) := by decide +kernel
theorem dX1_shortenWays_1 : decode cX1_shortenWays 1 = .ok (.istore 4, 2) := by decide +kernel
theorem dX1_shortenWays_3 : decode cX1_shortenWays 3 = .ok (.iload 4, 2) := by decide +kernel
theorem dX1_shortenWays_5 : decode cX1_shortenWays 5 = .ok (.aload_n 0, 1) := by decide +kernel
theorem dX1_shortenWays_6 : decode cX1_shortenWays 6 = .ok (.getfield 53, 3) := by decide +kernel
theorem dX1_shortenWays_9 : decode cX1_shortenWays 9 = .ok (.if_icmp .ge 75, 3) := by decide +kernel
theorem dX1_shortenWays_12 : decode cX1_shortenWays 12 = .ok (.iconst 0, 1) := by decide +kernel
theorem dX1_shortenWays_13 : decode cX1_shortenWays 13 = .ok (.istore 5, 2) := by decide +kernel
theorem dX1_shortenWays_15 : decode cX1_shortenWays 15 = .ok (.iload 5, 2) := by decide +kernel
theorem dX1_shortenWays_17 : decode cX1_shortenWays 17 = .ok (.aload_n 0, 1) := by decide +kernel
theorem dX1_shortenWays_18 : decode cX1_shortenWays 18 = .ok (.getfield 53, 3) := by decide +kernel
theorem dX1_shortenWays_21 : decode cX1_shortenWays 21 = .ok (.if_icmp .ge 57, 3) := by decide +kernel
theorem dX1_shortenWays_24 : decode cX1_shortenWays 24 = .ok (.aload_n 0, 1) := by decide +kernel
theorem dX1_shortenWays_25 : decode cX1_shortenWays 25 = .ok (.getfield 17, 3) := by decide +kernel
theorem dX1_shortenWays_28 : decode cX1_shortenWays 28 = .ok (.iload 4, 2) := by decide +kernel
theorem dX1_shortenWays_30 : decode cX1_shortenWays 30 = .ok (.aaload, 1) := by decide +kernel
theorem dX1_shortenWays_31 : decode cX1_shortenWays 31 = .ok (.iload_n 1, 1) := by decide +kernel
theorem dX1_shortenWays_32 : decode cX1_shortenWays 32 = .ok (.iaload, 1) := by decide +kernel
theorem dX1_shortenWays_33 : decode cX1_shortenWays 33 = .ok (.iload_n 3, 1) := by decide +kernel
theorem dX1_shortenWays_34 : decode cX1_shortenWays 34 = .ok (.iadd, 1) := by decide +kernel
theorem dX1_shortenWays_35 : decode cX1_shortenWays 35 = .ok (.aload_n 0, 1) := by decide +kernel
theorem dX1_shortenWays_36 : decode cX1_shortenWays 36 = .ok (.getfield 17, 3) := by decide +kernel
theorem dX1_shortenWays_39 : decode cX1_shortenWays 39 = .ok (.iload_n 2, 1) := by decide +kernel
theorem dX1_shortenWays_40 : decode cX1_shortenWays 40 = .ok (.aaload, 1) := by decide +kernel
theorem dX1_shortenWays_41 : decode cX1_shortenWays 41 = .ok (.iload 5, 2) := by decide +kernel
theorem dX1_shortenWays_43 : decode cX1_shortenWays 43 = .ok (.iaload, 1) := by decide +kernel
theorem dX1_shortenWays_44 : decode cX1_shortenWays 44 = .ok (.iadd, 1) := by decide +kernel
theorem dX1_shortenWays_45 : decode cX1_shortenWays 45 = .ok (.istore 6, 2) := by decide +kernel
theorem dX1_shortenWays_47 : decode cX1_shortenWays 47 = .ok (.aload_n 0, 1) := by decide +kernel
theorem dX1_shortenWays_48 : decode cX1_shortenWays 48 = .ok (.getfield 17, 3) := by decide +kernel
theorem dX1_shortenWays_51 : decode cX1_shortenWays 51 = .ok (.iload 4, 2) := by decide +kernel
theorem dX1_shortenWays_53 : decode cX1_shortenWays 53 = .ok (.aaload, 1) := by decide +kernel
theorem dX1_shortenWays_54 : decode cX1_shortenWays 54 = .ok (.iload 5, 2) := by decide +kernel
theorem dX1_shortenWays_56 : decode cX1_shortenWays 56 = .ok (.aload_n 0, 1) := by decide +kernel
theorem dX1_shortenWays_57 : decode cX1_shortenWays 57 = .ok (.getfield 17, 3) := by decide +kernel
theorem dX1_shortenWays_60 : decode cX1_shortenWays 60 = .ok (.iload 4, 2) := by decide +kernel
theorem dX1_shortenWays_62 : decode cX1_shortenWays 62 = .ok (.aaload, 1) := by decide +kernel
theorem dX1_shortenWays_63 : decode cX1_shortenWays 63 = .ok (.iload 5, 2) := by decide +kernel
theorem dX1_shortenWays_65 : decode cX1_shortenWays 65 = .ok (.iaload, 1) := by decide +kernel
theorem dX1_shortenWays_66 : decode cX1_shortenWays 66 = .ok (.iload 6, 2) := by decide +kernel
theorem dX1_shortenWays_68 : decode cX1_shortenWays 68 = .ok (.invokestatic 81, 3) := by decide +kernel
theorem dX1_shortenWays_71 : decode cX1_shortenWays 71 = .ok (.iastore, 1) := by decide +kernel
theorem dX1_shortenWays_72 : decode cX1_shortenWays 72 = .ok (.iinc 5 1, 3) := by decide +kernel
theorem dX1_shortenWays_75 : decode cX1_shortenWays 75 = .ok (.goto (-60), 3) := by decide +kernel
theorem dX1_shortenWays_78 : decode cX1_shortenWays 78 = .ok (.iinc 4 1, 3) := by decide +kernel
theorem dX1_shortenWays_81 : decode cX1_shortenWays 81 = .ok (.goto (-78), 3) := by decide +kernel
theorem dX1_shortenWays_84 : decode cX1_shortenWays 84 = .ok (.return_, 1) := by decide +kernel
theorem dX1_nearerEnd_0 : decode cX1_nearerEnd 0 = .ok (.aload_n 0, 1) := by decide +kernel
theorem dX1_nearerEnd_1 : decode cX1_nearerEnd 1 = .ok (.getfield 29, 3) := by decide +kernel
theorem dX1_nearerEnd_4 : decode cX1_nearerEnd 4 = .ok (.iload_n 2, 1) := by decide +kernel
theorem dX1_nearerEnd_5 : decode cX1_nearerEnd 5 = .ok (.iaload, 1) := by decide +kernel
theorem dX1_nearerEnd_6 : decode cX1_nearerEnd 6 = .ok (.istore_n 3, 1) := by decide +kernel
theorem dX1_nearerEnd_7 : decode cX1_nearerEnd 7 = .ok (.aload_n 0, 1) := by decide +kernel
theorem dX1_nearerEnd_8 : decode cX1_nearerEnd 8 = .ok (.getfield 20, 3) := by decide +kernel
theorem dX1_nearerEnd_11 : decode cX1_nearerEnd 11 = .ok (.iload_n 3, 1) := by decide +kernel
theorem dX1_nearerEnd_12 : decode cX1_nearerEnd 12 = .ok (.iaload, 1) := by decide +kernel
theorem dX1_nearerEnd_13 : decode cX1_nearerEnd 13 = .ok (.istore 4, 2) := by decide +kernel
theorem dX1_nearerEnd_15 : decode cX1_nearerEnd 15 = .ok (.aload_n 0, 1) := by decide +kernel
theorem dX1_nearerEnd_16 : decode cX1_nearerEnd 16 = .ok (.getfield 23, 3) := by decide +kernel
theorem dX1_nearerEnd_19 : decode cX1_nearerEnd 19 = .ok (.iload_n 3, 1) := by decide +kernel
theorem dX1_nearerEnd_20 : decode cX1_nearerEnd 20 = .ok (.iaload, 1) := by decide +kernel
theorem dX1_nearerEnd_21 : decode cX1_nearerEnd 21 = .ok (.istore 5, 2) := by decide +kernel
theorem dX1_nearerEnd_23 : decode cX1_nearerEnd 23 = .ok (.aload_n 0, 1) := by decide +kernel
theorem dX1_nearerEnd_24 : decode cX1_nearerEnd 24 = .ok (.getfield 17, 3) := by decide +kernel
theorem dX1_nearerEnd_27 : decode cX1_nearerEnd 27 = .ok (.iload_n 1, 1) := by decide +kernel
theorem dX1_nearerEnd_28 : decode cX1_nearerEnd 28 = .ok (.aaload, 1) := by decide +kernel
theorem dX1_nearerEnd_29 : decode cX1_nearerEnd 29 = .ok (.iload 4, 2) := by decide +kernel
theorem dX1_nearerEnd_31 : decode cX1_nearerEnd 31 = .ok (.iaload, 1) := by decide +kernel
theorem dX1_nearerEnd_32 : decode cX1_nearerEnd 32 = .ok (.aload_n 0, 1) := by decide +kernel
theorem dX1_nearerEnd_33 : decode cX1_nearerEnd 33 = .ok (.getfield 17, 3) := by decide +kernel
theorem dX1_nearerEnd_36 : decode cX1_nearerEnd 36 = .ok (.iload_n 1, 1) := by decide +kernel
theorem dX1_nearerEnd_37 : decode cX1_nearerEnd 37 = .ok (.aaload, 1) := by decide +kernel
theorem dX1_nearerEnd_38 : decode cX1_nearerEnd 38 = .ok (.iload 5, 2) := by decide +kernel
theorem dX1_nearerEnd_40 : decode cX1_nearerEnd 40 = .ok (.iaload, 1) := by decide +kernel
theorem dX1_nearerEnd_41 : decode cX1_nearerEnd 41 = .ok (.if_icmp .gt 8, 3) := by decide +kernel
theorem dX1_nearerEnd_44 : decode cX1_nearerEnd 44 = .ok (.iload 4, 2) := by decide +kernel
theorem dX1_nearerEnd_46 : decode cX1_nearerEnd 46 = .ok (.goto 5, 3) := by decide +kernel
theorem dX1_nearerEnd_49 : decode cX1_nearerEnd 49 = .ok (.iload 5, 2) := by decide +kernel
theorem dX1_nearerEnd_51 : decode cX1_nearerEnd 51 = .ok (.ireturn, 1) := by decide +kernel
set_option maxRecDepth 20000 in
theorem ggX1_canReach_X1_nearerEnd : GoodIn wsX1_canReach wsX1_nearerEnd := goodIn_r _ [9, 10, 11, 12, 3, 13, 14, 15, 16, 17, 18, 19, 20, 21, 22, 23, 24, 25, 26, 27, 28, 29] (by decide +kernel) (by decide +kernel)
set_option maxRecDepth 20000 in
theorem gX1_canReach_X1_nearerEnd : GoodIn wsX1_canReach (wsV RX1 84 RX1 yX1_nearerEnd wsX1_nearerEnd) := goodIn_app (goodIn_of _ (by decide +kernel)) ggX1_canReach_X1_nearerEnd
theorem dX1_canReach_0 : decode cX1_canReach 0 = .ok (.aload_n 0, 1) := by decide +kernel
theorem dX1_canReach_1 : decode cX1_canReach 1 = .ok (.getfield 32, 3) := by decide +kernel
theorem dX1_canReach_4 : decode cX1_canReach 4 = .ok (.iload_n 3, 1) := by decide +kernel
theorem dX1_canReach_5 : decode cX1_canReach 5 = .ok (.iaload, 1) := by decide +kernel
theorem dX1_canReach_6 : decode cX1_canReach 6 = .ok (.aload_n 0, 1) := by decide +kernel
theorem dX1_canReach_7 : decode cX1_canReach 7 = .ok (.getfield 44, 3) := by decide +kernel
theorem dX1_canReach_10 : decode cX1_canReach 10 = .ok (.iload_n 1, 1) := by decide +kernel
theorem dX1_canReach_11 : decode cX1_canReach 11 = .ok (.iaload, 1) := by decide +kernel
theorem dX1_canReach_12 : decode cX1_canReach 12 = .ok (.iconst 2, 1) := by decide +kernel
theorem dX1_canReach_13 : decode cX1_canReach 13 = .ok (.iadd, 1) := by decide +kernel
theorem dX1_canReach_14 : decode cX1_canReach 14 = .ok (.if_icmp .gt 25, 3) := by decide +kernel
theorem dX1_canReach_17 : decode cX1_canReach 17 = .ok (.aload_n 0, 1) := by decide +kernel
theorem dX1_canReach_18 : decode cX1_canReach 18 = .ok (.getfield 17, 3) := by decide +kernel
theorem dX1_canReach_21 : decode cX1_canReach 21 = .ok (.iload_n 2, 1) := by decide +kernel
theorem dX1_canReach_22 : decode cX1_canReach 22 = .ok (.aaload, 1) := by decide +kernel
theorem dX1_canReach_23 : decode cX1_canReach 23 = .ok (.aload_n 0, 1) := by decide +kernel
theorem dX1_canReach_24 : decode cX1_canReach 24 = .ok (.iload_n 2, 1) := by decide +kernel
theorem dX1_canReach_25 : decode cX1_canReach 25 = .ok (.iload_n 3, 1) := by decide +kernel
theorem dX1_canReach_26 : decode cX1_canReach 26 = .ok (.invokevirtual 84, 3) := by decide +kernel
theorem dX1_canReach_29 : decode cX1_canReach 29 = .ok (.iaload, 1) := by decide +kernel
theorem dX1_canReach_30 : decode cX1_canReach 30 = .ok (.ldc 57, 2) := by decide +kernel
theorem dX1_canReach_32 : decode cX1_canReach 32 = .ok (.if_icmp .ge 7, 3) := by decide +kernel
theorem dX1_canReach_35 : decode cX1_canReach 35 = .ok (.iconst 1, 1) := by decide +kernel
theorem dX1_canReach_36 : decode cX1_canReach 36 = .ok (.goto 4, 3) := by decide +kernel
theorem dX1_canReach_39 : decode cX1_canReach 39 = .ok (.iconst 0, 1) := by decide +kernel
theorem dX1_canReach_40 : decode cX1_canReach 40 = .ok (.ireturn, 1) := by decide +kernel
theorem dX1_windAtLamp_0 : decode cX1_windAtLamp 0 = .ok (.aload_n 0, 1) := by decide +kernel
theorem dX1_windAtLamp_1 : decode cX1_windAtLamp 1 = .ok (.getfield 29, 3) := by decide +kernel
theorem dX1_windAtLamp_4 : decode cX1_windAtLamp 4 = .ok (.iload_n 1, 1) := by decide +kernel
theorem dX1_windAtLamp_5 : decode cX1_windAtLamp 5 = .ok (.iaload, 1) := by decide +kernel
theorem dX1_windAtLamp_6 : decode cX1_windAtLamp 6 = .ok (.istore_n 3, 1) := by decide +kernel
theorem dX1_windAtLamp_7 : decode cX1_windAtLamp 7 = .ok (.iload_n 2, 1) := by decide +kernel
theorem dX1_windAtLamp_8 : decode cX1_windAtLamp 8 = .ok (.aload_n 0, 1) := by decide +kernel
theorem dX1_windAtLamp_9 : decode cX1_windAtLamp 9 = .ok (.getfield 9, 3) := by decide +kernel
theorem dX1_windAtLamp_12 : decode cX1_windAtLamp 12 = .ok (.aload_n 0, 1) := by decide +kernel
theorem dX1_windAtLamp_13 : decode cX1_windAtLamp 13 = .ok (.getfield 20, 3) := by decide +kernel
theorem dX1_windAtLamp_16 : decode cX1_windAtLamp 16 = .ok (.iload_n 3, 1) := by decide +kernel
theorem dX1_windAtLamp_17 : decode cX1_windAtLamp 17 = .ok (.iaload, 1) := by decide +kernel
theorem dX1_windAtLamp_18 : decode cX1_windAtLamp 18 = .ok (.iaload, 1) := by decide +kernel
theorem dX1_windAtLamp_19 : decode cX1_windAtLamp 19 = .ok (.aload_n 0, 1) := by decide +kernel
theorem dX1_windAtLamp_20 : decode cX1_windAtLamp 20 = .ok (.getfield 9, 3) := by decide +kernel
theorem dX1_windAtLamp_23 : decode cX1_windAtLamp 23 = .ok (.aload_n 0, 1) := by decide +kernel
theorem dX1_windAtLamp_24 : decode cX1_windAtLamp 24 = .ok (.getfield 23, 3) := by decide +kernel
theorem dX1_windAtLamp_27 : decode cX1_windAtLamp 27 = .ok (.iload_n 3, 1) := by decide +kernel
theorem dX1_windAtLamp_28 : decode cX1_windAtLamp 28 = .ok (.iaload, 1) := by decide +kernel
theorem dX1_windAtLamp_29 : decode cX1_windAtLamp 29 = .ok (.iaload, 1) := by decide +kernel
theorem dX1_windAtLamp_30 : decode cX1_windAtLamp 30 = .ok (.invokestatic 75, 3) := by decide +kernel
theorem dX1_windAtLamp_33 : decode cX1_windAtLamp 33 = .ok (.bipush 10, 2) := by decide +kernel
theorem dX1_windAtLamp_35 : decode cX1_windAtLamp 35 = .ok (.idiv, 1) := by decide +kernel
theorem dX1_windAtLamp_36 : decode cX1_windAtLamp 36 = .ok (.iadd, 1) := by decide +kernel
theorem dX1_windAtLamp_37 : decode cX1_windAtLamp 37 = .ok (.ireturn, 1) := by decide +kernel
