theorem dX3_init_0 : decode cX3_init 0 = .ok (.aload_n 0, 1) := by decide +kernel
theorem dX3_init_1 : decode cX3_init 1 = .ok (.invokespecial 1, 3) := by decide +kernel
theorem dX3_init_4 : decode cX3_init 4 = .ok (.aload_n 0, 1) := by decide +kernel
theorem dX3_init_5 : decode cX3_init 5 = .ok (.bipush 12, 2) := by decide +kernel
theorem dX3_init_7 : decode cX3_init 7 = .ok (.newarray .int, 2) := by decide +kernel
theorem dX3_init_9 : decode cX3_init 9 = .ok (.putfield 9, 3) := by decide +kernel
theorem dX3_init_12 : decode cX3_init 12 = .ok (.aload_n 0, 1) := by decide +kernel
theorem dX3_init_13 : decode cX3_init 13 = .ok (.bipush 54, 2) := by decide +kernel
theorem dX3_init_15 : decode cX3_init 15 = .ok (.newarray .int, 2) := by decide +kernel
theorem dX3_init_17 : decode cX3_init 17 = .ok (.putfield 13, 3) := by decide +kernel
theorem dX3_init_20 : decode cX3_init 20 = .ok (.aload_n 0, 1) := by decide +kernel
theorem dX3_init_21 : decode cX3_init 21 = .ok (.sipush 144, 3) := by decide +kernel
theorem dX3_init_24 : decode cX3_init 24 = .ok (.newarray .int, 2) := by decide +kernel
theorem dX3_init_26 : decode cX3_init 26 = .ok (.putfield 16, 3) := by decide +kernel
theorem dX3_init_29 : decode cX3_init 29 = .ok (.aload_n 0, 1) := by decide +kernel
theorem dX3_init_30 : decode cX3_init 30 = .ok (.sipush 160, 3) := by decide +kernel
theorem dX3_init_33 : decode cX3_init 33 = .ok (.newarray .int, 2) := by decide +kernel
theorem dX3_init_35 : decode cX3_init 35 = .ok (.putfield 19, 3) := by decide +kernel
theorem dX3_init_38 : decode cX3_init 38 = .ok (.aload_n 0, 1) := by decide +kernel
theorem dX3_init_39 : decode cX3_init 39 = .ok (.bipush 40, 2) := by decide +kernel
theorem dX3_init_41 : decode cX3_init 41 = .ok (.newarray .int, 2) := by decide +kernel
theorem dX3_init_43 : decode cX3_init 43 = .ok (.putfield 22, 3) := by decide +kernel
theorem dX3_init_46 : decode cX3_init 46 = .ok (.aload_n 0, 1) := by decide +kernel
theorem dX3_init_47 : decode cX3_init 47 = .ok (.bipush 40, 2) := by decide +kernel
theorem dX3_init_49 : decode cX3_init 49 = .ok (.newarray .int, 2) := by decide +kernel
theorem dX3_init_51 : decode cX3_init 51 = .ok (.putfield 25, 3) := by decide +kernel
theorem dX3_init_54 : decode cX3_init 54 = .ok (.aload_n 0, 1) := by decide +kernel
theorem dX3_init_55 : decode cX3_init 55 = .ok (.bipush 10, 2) := by decide +kernel
theorem dX3_init_57 : decode cX3_init 57 = .ok (.newarray .int, 2) := by decide +kernel
theorem dX3_init_59 : decode cX3_init 59 = .ok (.putfield 28, 3) := by decide +kernel
theorem dX3_init_62 : decode cX3_init 62 = .ok (.aload_n 0, 1) := by decide +kernel
theorem dX3_init_63 : decode cX3_init 63 = .ok (.iconst 3, 1) := by decide +kernel
theorem dX3_init_64 : decode cX3_init 64 = .ok (.newarray .int, 2) := by decide +kernel
theorem dX3_init_66 : decode cX3_init 66 = .ok (.putfield 31, 3) := by decide +kernel
theorem dX3_init_69 : decode cX3_init 69 = .ok (.return_, 1) := by decide +kernel
theorem dX3_thrown_0 : decode cX3_thrown 0 = .ok (.aload_n 0, 1) := by decide +kernel
theorem dX3_thrown_1 : decode cX3_thrown 1 = .ok (.getfield 34, 3) := by decide +kernel
theorem dX3_thrown_4 : decode cX3_thrown 4 = .ok (.ireturn, 1) := by decide +kernel
theorem dX3_fail_0 : decode cX3_fail 0 = .ok (.aload_n 0, 1) := by decide +kernel
theorem dX3_fail_1 : decode cX3_fail 1 = .ok (.iload_n 1, 1) := by decide +kernel
theorem dX3_fail_2 : decode cX3_fail 2 = .ok (.putfield 34, 3) := by decide +kernel
theorem dX3_fail_5 : decode cX3_fail 5 = .ok (.iconst 0, 1) := by decide +kernel
theorem dX3_fail_6 : decode cX3_fail 6 = .ok (.ireturn, 1) := by decide +kernel
theorem dX3_isIn_0 : decode cX3_isIn 0 = .ok (.iload_n 0, 1) := by decide +kernel
theorem dX3_isIn_1 : decode cX3_isIn 1 = .ok (.iload_n 1, 1) := by decide +kernel
theorem dX3_isIn_2 : decode cX3_isIn 2 = .ok (.if_icmp .lt 12, 3) := by decide +kernel
theorem dX3_isIn_5 : decode cX3_isIn 5 = .ok (.iload_n 0, 1) := by decide +kernel
theorem dX3_isIn_6 : decode cX3_isIn 6 = .ok (.iload_n 2, 1) := by decide +kernel
theorem dX3_isIn_7 : decode cX3_isIn 7 = .ok (.if_icmp .gt 7, 3) := by decide +kernel
theorem dX3_isIn_10 : decode cX3_isIn 10 = .ok (.iconst 1, 1) := by decide +kernel
theorem dX3_isIn_11 : decode cX3_isIn 11 = .ok (.goto 4, 3) := by decide +kernel
theorem dX3_isIn_14 : decode cX3_isIn 14 = .ok (.iconst 0, 1) := by decide +kernel
theorem dX3_isIn_15 : decode cX3_isIn 15 = .ok (.ireturn, 1) := by decide +kernel
set_option maxRecDepth 20000 in
theorem ggX3_isCorner_X3_isIn : GoodIn wsX3_isCorner wsX3_isIn := goodIn_r _ [5] (by decide +kernel) (by decide +kernel)
set_option maxRecDepth 20000 in
theorem gX3_isCorner_X3_isIn : GoodIn wsX3_isCorner (va_wsS RX3 41 yX3_isIn wsX3_isIn) := goodIn_app (goodIn_of _ (by decide +kernel)) ggX3_isCorner_X3_isIn
theorem dX3_isCorner_0 : decode cX3_isCorner 0 = .ok (.iload_n 1, 1) := by decide +kernel
theorem dX3_isCorner_1 : decode cX3_isCorner 1 = .ok (.iconst 0, 1) := by decide +kernel
theorem dX3_isCorner_2 : decode cX3_isCorner 2 = .ok (.aload_n 0, 1) := by decide +kernel
theorem dX3_isCorner_3 : decode cX3_isCorner 3 = .ok (.getfield 38, 3) := by decide +kernel
theorem dX3_isCorner_6 : decode cX3_isCorner 6 = .ok (.iconst 1, 1) := by decide +kernel
theorem dX3_isCorner_7 : decode cX3_isCorner 7 = .ok (.isub, 1) := by decide +kernel
theorem dX3_isCorner_8 : decode cX3_isCorner 8 = .ok (.invokestatic 41, 3) := by decide +kernel
theorem dX3_isCorner_11 : decode cX3_isCorner 11 = .ok (.ireturn, 1) := by decide +kernel
set_option maxRecDepth 20000 in
theorem ggX3_isStreet_X3_isIn : GoodIn wsX3_isStreet wsX3_isIn := goodIn_r _ [5] (by decide +kernel) (by decide +kernel)
set_option maxRecDepth 20000 in
theorem gX3_isStreet_X3_isIn : GoodIn wsX3_isStreet (va_wsS RX3 41 yX3_isIn wsX3_isIn) := goodIn_app (goodIn_of _ (by decide +kernel)) ggX3_isStreet_X3_isIn
theorem dX3_isStreet_0 : decode cX3_isStreet 0 = .ok (.iload_n 1, 1) := by decide +kernel
theorem dX3_isStreet_1 : decode cX3_isStreet 1 = .ok (.iconst 0, 1) := by decide +kernel
theorem dX3_isStreet_2 : decode cX3_isStreet 2 = .ok (.aload_n 0, 1) := by decide +kernel
theorem dX3_isStreet_3 : decode cX3_isStreet 3 = .ok (.getfield 45, 3) := by decide +kernel
theorem dX3_isStreet_6 : decode cX3_isStreet 6 = .ok (.iconst 1, 1) := by decide +kernel
theorem dX3_isStreet_7 : decode cX3_isStreet 7 = .ok (.isub, 1) := by decide +kernel
theorem dX3_isStreet_8 : decode cX3_isStreet 8 = .ok (.invokestatic 41, 3) := by decide +kernel
theorem dX3_isStreet_11 : decode cX3_isStreet 11 = .ok (.ireturn, 1) := by decide +kernel
set_option maxRecDepth 20000 in
theorem ggX3_isLamp_X3_isIn : GoodIn wsX3_isLamp wsX3_isIn := goodIn_r _ [5] (by decide +kernel) (by decide +kernel)
set_option maxRecDepth 20000 in
theorem gX3_isLamp_X3_isIn : GoodIn wsX3_isLamp (va_wsS RX3 41 yX3_isIn wsX3_isIn) := goodIn_app (goodIn_of _ (by decide +kernel)) ggX3_isLamp_X3_isIn
theorem dX3_isLamp_0 : decode cX3_isLamp 0 = .ok (.iload_n 1, 1) := by decide +kernel
theorem dX3_isLamp_1 : decode cX3_isLamp 1 = .ok (.iconst 0, 1) := by decide +kernel
theorem dX3_isLamp_2 : decode cX3_isLamp 2 = .ok (.aload_n 0, 1) := by decide +kernel
theorem dX3_isLamp_3 : decode cX3_isLamp 3 = .ok (.getfield 48, 3) := by decide +kernel
theorem dX3_isLamp_6 : decode cX3_isLamp 6 = .ok (.iconst 1, 1) := by decide +kernel
theorem dX3_isLamp_7 : decode cX3_isLamp 7 = .ok (.isub, 1) := by decide +kernel
theorem dX3_isLamp_8 : decode cX3_isLamp 8 = .ok (.invokestatic 41, 3) := by decide +kernel
theorem dX3_isLamp_11 : decode cX3_isLamp 11 = .ok (.ireturn, 1) := by decide +kernel
set_option maxRecDepth 20000 in
theorem ggX3_isLighter_X3_isIn : GoodIn wsX3_isLighter wsX3_isIn := goodIn_r _ [5] (by decide +kernel) (by decide +kernel)
set_option maxRecDepth 20000 in
theorem gX3_isLighter_X3_isIn : GoodIn wsX3_isLighter (va_wsS RX3 41 yX3_isIn wsX3_isIn) := goodIn_app (goodIn_of _ (by decide +kernel)) ggX3_isLighter_X3_isIn
theorem dX3_isLighter_0 : decode cX3_isLighter 0 = .ok (.iload_n 1, 1) := by decide +kernel
theorem dX3_isLighter_1 : decode cX3_isLighter 1 = .ok (.iconst 0, 1) := by decide +kernel
theorem dX3_isLighter_2 : decode cX3_isLighter 2 = .ok (.aload_n 0, 1) := by decide +kernel
theorem dX3_isLighter_3 : decode cX3_isLighter 3 = .ok (.getfield 51, 3) := by decide +kernel
theorem dX3_isLighter_6 : decode cX3_isLighter 6 = .ok (.iconst 1, 1) := by decide +kernel
theorem dX3_isLighter_7 : decode cX3_isLighter 7 = .ok (.isub, 1) := by decide +kernel
theorem dX3_isLighter_8 : decode cX3_isLighter 8 = .ok (.invokestatic 41, 3) := by decide +kernel
theorem dX3_isLighter_11 : decode cX3_isLighter 11 = .ok (.ireturn, 1) := by decide +kernel
theorem dX3_ro_0 : decode cX3_ro 0 = .ok (.aload_n 0, 1) := by decide +kernel
theorem dX3_ro_1 : decode cX3_ro 1 = .ok (.getfield 13, 3) := by decide +kernel
theorem dX3_ro_4 : decode cX3_ro 4 = .ok (.iconst 3, 1) := by decide +kernel
theorem dX3_ro_5 : decode cX3_ro 5 = .ok (.iload_n 1, 1) := by decide +kernel
theorem dX3_ro_6 : decode cX3_ro 6 = .ok (.imul, 1) := by decide +kernel
theorem dX3_ro_7 : decode cX3_ro 7 = .ok (.iload_n 2, 1) := by decide +kernel
theorem dX3_ro_8 : decode cX3_ro 8 = .ok (.iadd, 1) := by decide +kernel
theorem dX3_ro_9 : decode cX3_ro 9 = .ok (.iaload, 1) := by decide +kernel
theorem dX3_ro_10 : decode cX3_ro 10 = .ok (.ireturn, 1) := by decide +kernel
theorem dX3_la_0 : decode cX3_la 0 = .ok (.aload_n 0, 1) := by decide +kernel
theorem dX3_la_1 : decode cX3_la 1 = .ok (.getfield 19, 3) := by decide +kernel
theorem dX3_la_4 : decode cX3_la 4 = .ok (.bipush 8, 2) := by decide +kernel
theorem dX3_la_6 : decode cX3_la 6 = .ok (.iload_n 1, 1) := by decide +kernel
theorem dX3_la_7 : decode cX3_la 7 = .ok (.imul, 1) := by decide +kernel
theorem dX3_la_8 : decode cX3_la 8 = .ok (.iload_n 2, 1) := by decide +kernel
theorem dX3_la_9 : decode cX3_la 9 = .ok (.iadd, 1) := by decide +kernel
theorem dX3_la_10 : decode cX3_la 10 = .ok (.iaload, 1) := by decide +kernel
theorem dX3_la_11 : decode cX3_la 11 = .ok (.ireturn, 1) := by decide +kernel
theorem dX3_setLamp_0 : decode cX3_setLamp 0 = .ok (.aload_n 0, 1) := by decide +kernel
theorem dX3_setLamp_1 : decode cX3_setLamp 1 = .ok (.getfield 19, 3) := by decide +kernel
theorem dX3_setLamp_4 : decode cX3_setLamp 4 = .ok (.bipush 8, 2) := by decide +kernel
theorem dX3_setLamp_6 : decode cX3_setLamp 6 = .ok (.iload_n 1, 1) := by decide +kernel
theorem dX3_setLamp_7 : decode cX3_setLamp 7 = .ok (.imul, 1) := by decide +kernel
theorem dX3_setLamp_8 : decode cX3_setLamp 8 = .ok (.iload_n 2, 1) := by decide +kernel
theorem dX3_setLamp_9 : decode cX3_setLamp 9 = .ok (.iadd, 1) := by decide +kernel
theorem dX3_setLamp_10 : decode cX3_setLamp 10 = .ok (.iload_n 3, 1) := by decide +kernel
theorem dX3_setLamp_11 : decode cX3_setLamp 11 = .ok (.iastore, 1) := by decide +kernel
theorem dX3_setLamp_12 : decode cX3_setLamp 12 = .ok (.return_, 1) := by decide +kernel
theorem dX3_pe_0 : decode cX3_pe 0 = .ok (.aload_n 0, 1) := by decide +kernel
theorem dX3_pe_1 : decode cX3_pe 1 = .ok (.getfield 22, 3) := by decide +kernel
theorem dX3_pe_4 : decode cX3_pe 4 = .ok (.bipush 10, 2) := by decide +kernel
theorem dX3_pe_6 : decode cX3_pe 6 = .ok (.iload_n 1, 1) := by decide +kernel
theorem dX3_pe_7 : decode cX3_pe 7 = .ok (.imul, 1) := by decide +kernel
theorem dX3_pe_8 : decode cX3_pe 8 = .ok (.iload_n 2, 1) := by decide +kernel
theorem dX3_pe_9 : decode cX3_pe 9 = .ok (.iadd, 1) := by decide +kernel
theorem dX3_pe_10 : decode cX3_pe 10 = .ok (.iaload, 1) := by decide +kernel
theorem dX3_pe_11 : decode cX3_pe 11 = .ok (.ireturn, 1) := by decide +kernel
theorem dX3_put_0 : decode cX3_put 0 = .ok (.aload_n 0, 1) := by decide +kernel
theorem dX3_put_1 : decode cX3_put 1 = .ok (.getfield 22, 3) := by decide +kernel
theorem dX3_put_4 : decode cX3_put 4 = .ok (.bipush 10, 2) := by decide +kernel
theorem dX3_put_6 : decode cX3_put 6 = .ok (.iload_n 1, 1) := by decide +kernel
theorem dX3_put_7 : decode cX3_put 7 = .ok (.imul, 1) := by decide +kernel
theorem dX3_put_8 : decode cX3_put 8 = .ok (.iload_n 2, 1) := by decide +kernel
theorem dX3_put_9 : decode cX3_put 9 = .ok (.iadd, 1) := by decide +kernel
theorem dX3_put_10 : decode cX3_put 10 = .ok (.iload_n 3, 1) := by decide +kernel
theorem dX3_put_11 : decode cX3_put 11 = .ok (.iastore, 1) := by decide +kernel
theorem dX3_put_12 : decode cX3_put 12 = .ok (.return_, 1) := by decide +kernel
set_option maxRecDepth 20000 in
theorem ggX3_reckon_X3_ro : GoodIn wsX3_reckon wsX3_ro := goodIn_r _ [16, 17, 18, 19, 20, 21, 22, 23, 24, 25, 26, 27, 28, 29, 30] (by decide +kernel) (by decide +kernel)
set_option maxRecDepth 20000 in
theorem gX3_reckon_X3_ro : GoodIn wsX3_reckon (wsV RX3 54 RX3 yX3_ro wsX3_ro) := goodIn_app (goodIn_of _ (by decide +kernel)) ggX3_reckon_X3_ro
theorem dX3_reckon_0 : decode cX3_reckon 0 = .ok (.iconst 0, 1) := by decide +kernel
theorem dX3_reckon_1 : decode cX3_reckon 1 = .ok (.istore_n 1, 1) := by decide +kernel
theorem dX3_reckon_2 : decode cX3_reckon 2 = .ok (.iload_n 1, 1) := by decide +kernel
theorem dX3_reckon_3 : decode cX3_reckon 3 = .ok (.aload_n 0, 1) := by decide +kernel
theorem dX3_reckon_4 : decode cX3_reckon 4 = .ok (.getfield 38, 3) := by decide +kernel
theorem dX3_reckon_7 : decode cX3_reckon 7 = .ok (.if_icmp .ge 48, 3) := by decide +kernel
theorem dX3_reckon_10 : decode cX3_reckon 10 = .ok (.iconst 0, 1) := by decide +kernel
theorem dX3_reckon_11 : decode cX3_reckon 11 = .ok (.istore_n 2, 1) := by decide +kernel
theorem dX3_reckon_12 : decode cX3_reckon 12 = .ok (.iload_n 2, 1) := by decide +kernel
theorem dX3_reckon_13 : decode cX3_reckon 13 = .ok (.aload_n 0, 1) := by decide +kernel
theorem dX3_reckon_14 : decode cX3_reckon 14 = .ok (.getfield 38, 3) := by decide +kernel
theorem dX3_reckon_17 : decode cX3_reckon 17 = .ok (.if_icmp .ge 32, 3) := by decide +kernel
theorem dX3_reckon_20 : decode cX3_reckon 20 = .ok (.aload_n 0, 1) := by decide +kernel
theorem dX3_reckon_21 : decode cX3_reckon 21 = .ok (.getfield 16, 3) := by decide +kernel
theorem dX3_reckon_24 : decode cX3_reckon 24 = .ok (.bipush 12, 2) := by decide +kernel
theorem dX3_reckon_26 : decode cX3_reckon 26 = .ok (.iload_n 1, 1) := by decide +kernel
theorem dX3_reckon_27 : decode cX3_reckon 27 = .ok (.imul, 1) := by decide +kernel
theorem dX3_reckon_28 : decode cX3_reckon 28 = .ok (.iload_n 2, 1) := by decide +kernel
theorem dX3_reckon_29 : decode cX3_reckon 29 = .ok (.iadd, 1) := by decide +kernel
theorem dX3_reckon_30 : decode cX3_reckon 30 = .ok (.iload_n 1, 1) := by decide +kernel
theorem dX3_reckon_31 : decode cX3_reckon 31 = .ok (.iload_n 2, 1) := by decide +kernel
theorem dX3_reckon_32 : decode cX3_reckon 32 = .ok (.if_icmp .ne 7, 3) := by decide +kernel
theorem dX3_reckon_35 : decode cX3_reckon 35 = .ok (.iconst 0, 1) := by decide +kernel
theorem dX3_reckon_36 : decode cX3_reckon 36 = .ok (.goto 6, 3) := by decide +kernel
theorem dX3_reckon_39 : decode cX3_reckon 39 = .ok (.sipush 9999, 3) := by decide +kernel
theorem dX3_reckon_42 : decode cX3_reckon 42 = .ok (.iastore, 1) := by decide +kernel
theorem dX3_reckon_43 : decode cX3_reckon 43 = .ok (.iinc 2 1, 3) := by decide +kernel
theorem dX3_reckon_46 : decode cX3_reckon 46 = .ok (.goto (-34), 3) := by decide +kernel
theorem dX3_reckon_49 : decode cX3_reckon 49 = .ok (.iinc 1 1, 3) := by decide +kernel
theorem dX3_reckon_52 : decode cX3_reckon 52 = .ok (.goto (-50), 3) := by decide +kernel
theorem dX3_reckon_55 : decode cX3_reckon 55 = .ok (.iconst 0, 1) := by decide +kernel
theorem dX3_reckon_56 : decode cX3_reckon 56 = .ok (.istore_n 1, 1) := by decide +kernel
theorem dX3_reckon_57 : decode cX3_reckon 57 = .ok (.iload_n 1, 1) := by decide +kernel
theorem dX3_reckon_58 : decode cX3_reckon 58 = .ok (.aload_n 0, 1) := by decide +kernel
theorem dX3_reckon_59 : decode cX3_reckon 59 = .ok (.getfield 45, 3) := by decide +kernel
theorem dX3_reckon_62 : decode cX3_reckon 62 = .ok (.if_icmp .ge 111, 3) := by decide +kernel
theorem dX3_reckon_65 : decode cX3_reckon 65 = .ok (.iconst 0, 1) := by decide +kernel
theorem dX3_reckon_66 : decode cX3_reckon 66 = .ok (.istore_n 2, 1) := by decide +kernel
theorem dX3_reckon_67 : decode cX3_reckon 67 = .ok (.iload_n 2, 1) := by decide +kernel
theorem dX3_reckon_68 : decode cX3_reckon 68 = .ok (.iconst 2, 1) := by decide +kernel
theorem dX3_reckon_69 : decode cX3_reckon 69 = .ok (.if_icmp .ge 98, 3) := by decide +kernel
theorem dX3_reckon_72 : decode cX3_reckon 72 = .ok (.aload_n 0, 1) := by decide +kernel
theorem dX3_reckon_73 : decode cX3_reckon 73 = .ok (.iload_n 1, 1) := by decide +kernel
theorem dX3_reckon_74 : decode cX3_reckon 74 = .ok (.iload_n 2, 1) := by decide +kernel
theorem dX3_reckon_75 : decode cX3_reckon 75 = .ok (.ifCond .ne 7, 3) := by decide +kernel
theorem dX3_reckon_78 : decode cX3_reckon 78 = .ok (.iconst 0, 1) := by decide +kernel
theorem dX3_reckon_79 : decode cX3_reckon 79 = .ok (.goto 4, 3) := by decide +kernel
theorem dX3_reckon_82 : decode cX3_reckon 82 = .ok (.iconst 1, 1) := by decide +kernel
theorem dX3_reckon_83 : decode cX3_reckon 83 = .ok (.invokevirtual 54, 3) := by decide +kernel
theorem dX3_reckon_86 : decode cX3_reckon 86 = .ok (.istore_n 3, 1) := by decide +kernel
theorem dX3_reckon_87 : decode cX3_reckon 87 = .ok (.aload_n 0, 1) := by decide +kernel
theorem dX3_reckon_88 : decode cX3_reckon 88 = .ok (.iload_n 1, 1) := by decide +kernel
theorem dX3_reckon_89 : decode cX3_reckon 89 = .ok (.iload_n 2, 1) := by decide +kernel
theorem dX3_reckon_90 : decode cX3_reckon 90 = .ok (.ifCond .ne 7, 3) := by decide +kernel
theorem dX3_reckon_93 : decode cX3_reckon 93 = .ok (.iconst 1, 1) := by decide +kernel
theorem dX3_reckon_94 : decode cX3_reckon 94 = .ok (.goto 4, 3) := by decide +kernel
theorem dX3_reckon_97 : decode cX3_reckon 97 = .ok (.iconst 0, 1) := by decide +kernel
theorem dX3_reckon_98 : decode cX3_reckon 98 = .ok (.invokevirtual 54, 3) := by decide +kernel
theorem dX3_reckon_101 : decode cX3_reckon 101 = .ok (.istore 4, 2) := by decide +kernel
theorem dX3_reckon_103 : decode cX3_reckon 103 = .ok (.aload_n 0, 1) := by decide +kernel
theorem dX3_reckon_104 : decode cX3_reckon 104 = .ok (.iload_n 1, 1) := by decide +kernel
theorem dX3_reckon_105 : decode cX3_reckon 105 = .ok (.iconst 2, 1) := by decide +kernel
theorem dX3_reckon_106 : decode cX3_reckon 106 = .ok (.invokevirtual 54, 3) := by decide +kernel
theorem dX3_reckon_109 : decode cX3_reckon 109 = .ok (.iconst 0, 1) := by decide +kernel
theorem dX3_reckon_110 : decode cX3_reckon 110 = .ok (.aload_n 0, 1) := by decide +kernel
theorem dX3_reckon_111 : decode cX3_reckon 111 = .ok (.getfield 9, 3) := by decide +kernel
theorem dX3_reckon_114 : decode cX3_reckon 114 = .ok (.iload 4, 2) := by decide +kernel
theorem dX3_reckon_116 : decode cX3_reckon 116 = .ok (.iaload, 1) := by decide +kernel
theorem dX3_reckon_117 : decode cX3_reckon 117 = .ok (.aload_n 0, 1) := by decide +kernel
theorem dX3_reckon_118 : decode cX3_reckon 118 = .ok (.getfield 9, 3) := by decide +kernel
theorem dX3_reckon_121 : decode cX3_reckon 121 = .ok (.iload_n 3, 1) := by decide +kernel
theorem dX3_reckon_122 : decode cX3_reckon 122 = .ok (.iaload, 1) := by decide +kernel
theorem dX3_reckon_123 : decode cX3_reckon 123 = .ok (.isub, 1) := by decide +kernel
theorem dX3_reckon_124 : decode cX3_reckon 124 = .ok (.invokestatic 58, 3) := by decide +kernel
theorem dX3_reckon_127 : decode cX3_reckon 127 = .ok (.iconst 2, 1) := by decide +kernel
theorem dX3_reckon_128 : decode cX3_reckon 128 = .ok (.idiv, 1) := by decide +kernel
theorem dX3_reckon_129 : decode cX3_reckon 129 = .ok (.iadd, 1) := by decide +kernel
theorem dX3_reckon_130 : decode cX3_reckon 130 = .ok (.istore 5, 2) := by decide +kernel
theorem dX3_reckon_132 : decode cX3_reckon 132 = .ok (.aload_n 0, 1) := by decide +kernel
theorem dX3_reckon_133 : decode cX3_reckon 133 = .ok (.getfield 16, 3) := by decide +kernel
theorem dX3_reckon_136 : decode cX3_reckon 136 = .ok (.bipush 12, 2) := by decide +kernel
theorem dX3_reckon_138 : decode cX3_reckon 138 = .ok (.iload_n 3, 1) := by decide +kernel
theorem dX3_reckon_139 : decode cX3_reckon 139 = .ok (.imul, 1) := by decide +kernel
theorem dX3_reckon_140 : decode cX3_reckon 140 = .ok (.iload 4, 2) := by decide +kernel
theorem dX3_reckon_142 : decode cX3_reckon 142 = .ok (.iadd, 1) := by decide +kernel
theorem dX3_reckon_143 : decode cX3_reckon 143 = .ok (.aload_n 0, 1) := by decide +kernel
theorem dX3_reckon_144 : decode cX3_reckon 144 = .ok (.getfield 16, 3) := by decide +kernel
theorem dX3_reckon_147 : decode cX3_reckon 147 = .ok (.bipush 12, 2) := by decide +kernel
theorem dX3_reckon_149 : decode cX3_reckon 149 = .ok (.iload_n 3, 1) := by decide +kernel
theorem dX3_reckon_150 : decode cX3_reckon 150 = .ok (.imul, 1) := by decide +kernel
theorem dX3_reckon_151 : decode cX3_reckon 151 = .ok (.iload 4, 2) := by decide +kernel
theorem dX3_reckon_153 : decode cX3_reckon 153 = .ok (.iadd, 1) := by decide +kernel
theorem dX3_reckon_154 : decode cX3_reckon 154 = .ok (.iaload, 1) := by decide +kernel
theorem dX3_reckon_155 : decode cX3_reckon 155 = .ok (.iload 5, 2) := by decide +kernel
theorem dX3_reckon_157 : decode cX3_reckon 157 = .ok (.invokestatic 63, 3) := by decide +kernel
theorem dX3_reckon_160 : decode cX3_reckon 160 = .ok (.iastore, 1) := by decide +kernel
theorem dX3_reckon_161 : decode cX3_reckon 161 = .ok (.iinc 2 1, 3) := by decide +kernel
theorem dX3_reckon_164 : decode cX3_reckon 164 = .ok (.goto (-97), 3) := by decide +kernel
theorem dX3_reckon_167 : decode cX3_reckon 167 = .ok (.iinc 1 1, 3) := by decide +kernel
theorem dX3_reckon_170 : decode cX3_reckon 170 = .ok (.goto (-113), 3) := by decide +kernel
theorem dX3_reckon_173 : decode cX3_reckon 173 = .ok (.iconst 0, 1) := by decide +kernel
theorem dX3_reckon_174 : decode cX3_reckon 174 = .ok (.istore_n 1, 1) := by decide +kernel
theorem dX3_reckon_175 : decode cX3_reckon 175 = .ok (.iload_n 1, 1) := by decide +kernel
theorem dX3_reckon_176 : decode cX3_reckon 176 = .ok (.aload_n 0, 1) := by decide +kernel
theorem dX3_reckon_177 : decode cX3_reckon 177 = .ok (.getfield 38, 3) := by decide +kernel
theorem dX3_reckon_180 : decode cX3_reckon 180 = .ok (.if_icmp .ge 89, 3) := by decide +kernel
theorem dX3_reckon_183 : decode cX3_reckon 183 = .ok (.iconst 0, 1) := by decide +kernel
theorem dX3_reckon_184 : decode cX3_reckon 184 = .ok (.istore_n 2, 1) := by decide +kernel
theorem dX3_reckon_185 : decode cX3_reckon 185 = .ok (.iload_n 2, 1) := by decide +kernel
theorem dX3_reckon_186 : decode cX3_reckon 186 = .ok (.aload_n 0, 1) := by decide +kernel
theorem dX3_reckon_187 : decode cX3_reckon 187 = .ok (.getfield 38, 3) := by decide +kernel
theorem dX3_reckon_190 : decode cX3_reckon 190 = .ok (.if_icmp .ge 73, 3) := by decide +kernel
theorem dX3_reckon_193 : decode cX3_reckon 193 = .ok (.iconst 0, 1) := by decide +kernel
theorem dX3_reckon_194 : decode cX3_reckon 194 = .ok (.istore_n 3, 1) := by decide +kernel
theorem dX3_reckon_195 : decode cX3_reckon 195 = .ok (.iload_n 3, 1) := by decide +kernel
theorem dX3_reckon_196 : decode cX3_reckon 196 = .ok (.aload_n 0, 1) := by decide +kernel
theorem dX3_reckon_197 : decode cX3_reckon 197 = .ok (.getfield 38, 3) := by decide +kernel
theorem dX3_reckon_200 : decode cX3_reckon 200 = .ok (.if_icmp .ge 57, 3) := by decide +kernel
theorem dX3_reckon_203 : decode cX3_reckon 203 = .ok (.aload_n 0, 1) := by decide +kernel
theorem dX3_reckon_204 : decode cX3_reckon 204 = .ok (.getfield 16, 3) := by decide +kernel
theorem dX3_reckon_207 : decode cX3_reckon 207 = .ok (.bipush 12, 2) := by decide +kernel
theorem dX3_reckon_209 : decode cX3_reckon 209 = .ok (.iload_n 2, 1) := by decide +kernel
theorem dX3_reckon_210 : decode cX3_reckon 210 = .ok (.imul, 1) := by decide +kernel
theorem dX3_reckon_211 : decode cX3_reckon 211 = .ok (.iload_n 3, 1) := by decide +kernel
theorem dX3_reckon_212 : decode cX3_reckon 212 = .ok (.iadd, 1) := by decide +kernel
theorem dX3_reckon_213 : decode cX3_reckon 213 = .ok (.aload_n 0, 1) := by decide +kernel
theorem dX3_reckon_214 : decode cX3_reckon 214 = .ok (.getfield 16, 3) := by decide +kernel
theorem dX3_reckon_217 : decode cX3_reckon 217 = .ok (.bipush 12, 2) := by decide +kernel
theorem dX3_reckon_219 : decode cX3_reckon 219 = .ok (.iload_n 2, 1) := by decide +kernel
theorem dX3_reckon_220 : decode cX3_reckon 220 = .ok (.imul, 1) := by decide +kernel
theorem dX3_reckon_221 : decode cX3_reckon 221 = .ok (.iload_n 3, 1) := by decide +kernel
theorem dX3_reckon_222 : decode cX3_reckon 222 = .ok (.iadd, 1) := by decide +kernel
theorem dX3_reckon_223 : decode cX3_reckon 223 = .ok (.iaload, 1) := by decide +kernel
theorem dX3_reckon_224 : decode cX3_reckon 224 = .ok (.aload_n 0, 1) := by decide +kernel
theorem dX3_reckon_225 : decode cX3_reckon 225 = .ok (.getfield 16, 3) := by decide +kernel
theorem dX3_reckon_228 : decode cX3_reckon 228 = .ok (.bipush 12, 2) := by decide +kernel
theorem dX3_reckon_230 : decode cX3_reckon 230 = .ok (.iload_n 2, 1) := by decide +kernel
theorem dX3_reckon_231 : decode cX3_reckon 231 = .ok (.imul, 1) := by decide +kernel
theorem dX3_reckon_232 : decode cX3_reckon 232 = .ok (.iload_n 1, 1) := by decide +kernel
theorem dX3_reckon_233 : decode cX3_reckon 233 = .ok (.iadd, 1) := by decide +kernel
theorem dX3_reckon_234 : decode cX3_reckon 234 = .ok (.iaload, 1) := by decide +kernel
theorem dX3_reckon_235 : decode cX3_reckon 235 = .ok (.aload_n 0, 1) := by decide +kernel
theorem dX3_reckon_236 : decode cX3_reckon 236 = .ok (.getfield 16, 3) := by decide +kernel
theorem dX3_reckon_239 : decode cX3_reckon 239 = .ok (.bipush 12, 2) := by decide +kernel
theorem dX3_reckon_241 : decode cX3_reckon 241 = .ok (.iload_n 1, 1) := by decide +kernel
theorem dX3_reckon_242 : decode cX3_reckon 242 = .ok (.imul, 1) := by decide +kernel
theorem dX3_reckon_243 : decode cX3_reckon 243 = .ok (.iload_n 3, 1) := by decide +kernel
theorem dX3_reckon_244 : decode cX3_reckon 244 = .ok (.iadd, 1) := by decide +kernel
theorem dX3_reckon_245 : decode cX3_reckon 245 = .ok (.iaload, 1) := by decide +kernel
theorem dX3_reckon_246 : decode cX3_reckon 246 = .ok (.iadd, 1) := by decide +kernel
theorem dX3_reckon_247 : decode cX3_reckon 247 = .ok (.invokestatic 63, 3) := by decide +kernel
theorem dX3_reckon_250 : decode cX3_reckon 250 = .ok (.iastore, 1) := by decide +kernel
theorem dX3_reckon_251 : decode cX3_reckon 251 = .ok (.iinc 3 1, 3) := by decide +kernel
theorem dX3_reckon_254 : decode cX3_reckon 254 = .ok (.goto (-59), 3) := by decide +kernel
theorem dX3_reckon_257 : decode cX3_reckon 257 = .ok (.iinc 2 1, 3) := by decide +kernel
theorem dX3_reckon_260 : decode cX3_reckon 260 = .ok (.goto (-75), 3) := by decide +kernel
theorem dX3_reckon_263 : decode cX3_reckon 263 = .ok (.iinc 1 1, 3) := by decide +kernel
theorem dX3_reckon_266 : decode cX3_reckon 266 = .ok (.goto (-91), 3) := by decide +kernel
theorem dX3_reckon_269 : decode cX3_reckon 269 = .ok (.return_, 1) := by decide +kernel
set_option maxRecDepth 20000 in
theorem ggX3_corner_X3_isIn : GoodIn wsX3_corner wsX3_isIn := goodIn_r _ [7] (by decide +kernel) (by decide +kernel)
set_option maxRecDepth 20000 in
theorem gX3_corner_X3_isIn : GoodIn wsX3_corner (va_wsS RX3 41 yX3_isIn wsX3_isIn) := goodIn_app (goodIn_of _ (by decide +kernel)) ggX3_corner_X3_isIn
set_option maxRecDepth 20000 in
theorem ggX3_corner_X3_fail : GoodIn wsX3_corner wsX3_fail := goodIn_r _ [11, 1, 30, 31, 32, 33, 34, 35, 36, 37, 38, 39, 40, 41, 42] (by decide +kernel) (by decide +kernel)
set_option maxRecDepth 20000 in
theorem gX3_corner_X3_fail : GoodIn wsX3_corner (wsV RX3 66 RX3 yX3_fail wsX3_fail) := goodIn_app (goodIn_of _ (by decide +kernel)) ggX3_corner_X3_fail
set_option maxRecDepth 20000 in
theorem ggX3_corner_X3_reckon : GoodIn wsX3_corner wsX3_reckon := goodIn_r _ [15, 2, 16, 17, 3, 18, 19, 20, 21, 22, 23, 24, 25, 26, 27, 6, 28, 29, 30, 31, 32, 33, 34, 35, 36, 37, 38, 39, 40, 41, 42] (by decide +kernel) (by decide +kernel)
set_option maxRecDepth 20000 in
theorem gX3_corner_X3_reckon : GoodIn wsX3_corner (wsV RX3 70 RX3 yX3_reckon wsX3_reckon) := goodIn_app (goodIn_of _ (by decide +kernel)) ggX3_corner_X3_reckon
theorem dX3_corner_0 : decode cX3_corner 0 = .ok (.aload_n 0, 1) := by decide +kernel
theorem dX3_corner_1 : decode cX3_corner 1 = .ok (.iconst 0, 1) := by decide +kernel
theorem dX3_corner_2 : decode cX3_corner 2 = .ok (.putfield 34, 3) := by decide +kernel
theorem dX3_corner_5 : decode cX3_corner 5 = .ok (.iload_n 1, 1) := by decide +kernel
theorem dX3_corner_6 : decode cX3_corner 6 = .ok (.iconst 0, 1) := by decide +kernel
theorem dX3_corner_7 : decode cX3_corner 7 = .ok (.bipush 30, 2) := by decide +kernel
theorem dX3_corner_9 : decode cX3_corner 9 = .ok (.invokestatic 41, 3) := by decide +kernel
theorem dX3_corner_12 : decode cX3_corner 12 = .ok (.ifCond .ne 9, 3) := by decide +kernel
theorem dX3_corner_15 : decode cX3_corner 15 = .ok (.aload_n 0, 1) := by decide +kernel
theorem dX3_corner_16 : decode cX3_corner 16 = .ok (.iconst 1, 1) := by decide +kernel
theorem dX3_corner_17 : decode cX3_corner 17 = .ok (.invokevirtual 66, 3) := by decide +kernel
theorem dX3_corner_20 : decode cX3_corner 20 = .ok (.ireturn, 1) := by decide +kernel
theorem dX3_corner_21 : decode cX3_corner 21 = .ok (.aload_n 0, 1) := by decide +kernel
theorem dX3_corner_22 : decode cX3_corner 22 = .ok (.getfield 38, 3) := by decide +kernel
theorem dX3_corner_25 : decode cX3_corner 25 = .ok (.bipush 12, 2) := by decide +kernel
theorem dX3_corner_27 : decode cX3_corner 27 = .ok (.if_icmp .ne 9, 3) := by decide +kernel
theorem dX3_corner_30 : decode cX3_corner 30 = .ok (.aload_n 0, 1) := by decide +kernel
theorem dX3_corner_31 : decode cX3_corner 31 = .ok (.iconst 2, 1) := by decide +kernel
theorem dX3_corner_32 : decode cX3_corner 32 = .ok (.invokevirtual 66, 3) := by decide +kernel
theorem dX3_corner_35 : decode cX3_corner 35 = .ok (.ireturn, 1) := by decide +kernel
theorem dX3_corner_36 : decode cX3_corner 36 = .ok (.aload_n 0, 1) := by decide +kernel
theorem dX3_corner_37 : decode cX3_corner 37 = .ok (.getfield 9, 3) := by decide +kernel
theorem dX3_corner_40 : decode cX3_corner 40 = .ok (.aload_n 0, 1) := by decide +kernel
theorem dX3_corner_41 : decode cX3_corner 41 = .ok (.getfield 38, 3) := by decide +kernel
theorem dX3_corner_44 : decode cX3_corner 44 = .ok (.iload_n 1, 1) := by decide +kernel
theorem dX3_corner_45 : decode cX3_corner 45 = .ok (.iastore, 1) := by decide +kernel
theorem dX3_corner_46 : decode cX3_corner 46 = .ok (.aload_n 0, 1) := by decide +kernel
theorem dX3_corner_47 : decode cX3_corner 47 = .ok (.dup, 1) := by decide +kernel
theorem dX3_corner_48 : decode cX3_corner 48 = .ok (.getfield 38, 3) := by decide +kernel
theorem dX3_corner_51 : decode cX3_corner 51 = .ok (.iconst 1, 1) := by decide +kernel
theorem dX3_corner_52 : decode cX3_corner 52 = .ok (.iadd, 1) := by decide +kernel
theorem dX3_corner_53 : decode cX3_corner 53 = .ok (.putfield 38, 3) := by decide +kernel
theorem dX3_corner_56 : decode cX3_corner 56 = .ok (.aload_n 0, 1) := by decide +kernel
theorem dX3_corner_57 : decode cX3_corner 57 = .ok (.invokevirtual 70, 3) := by decide +kernel
theorem dX3_corner_60 : decode cX3_corner 60 = .ok (.aload_n 0, 1) := by decide +kernel
theorem dX3_corner_61 : decode cX3_corner 61 = .ok (.getfield 38, 3) := by decide +kernel
theorem dX3_corner_64 : decode cX3_corner 64 = .ok (.iconst 1, 1) := by decide +kernel
theorem dX3_corner_65 : decode cX3_corner 65 = .ok (.isub, 1) := by decide +kernel
theorem dX3_corner_66 : decode cX3_corner 66 = .ok (.ireturn, 1) := by decide +kernel
set_option maxRecDepth 20000 in
theorem ggX3_street_X3_isCorner : GoodIn wsX3_street wsX3_isCorner := goodIn_r _ [13, 14, 15, 16, 12, 17, 39, 40, 41, 42, 43, 44, 45, 46, 47, 48, 49, 50, 51] (by decide +kernel) (by decide +kernel)
set_option maxRecDepth 20000 in
theorem gX3_street_X3_isCorner : GoodIn wsX3_street (wsV RX3 73 RX3 yX3_isCorner wsX3_isCorner) := goodIn_app (goodIn_of _ (by decide +kernel)) ggX3_street_X3_isCorner
set_option maxRecDepth 20000 in
theorem ggX3_street_X3_fail : GoodIn wsX3_street wsX3_fail := goodIn_r _ [21, 1, 39, 40, 41, 42, 43, 44, 45, 46, 47, 48, 49, 50, 51] (by decide +kernel) (by decide +kernel)
set_option maxRecDepth 20000 in
theorem gX3_street_X3_fail : GoodIn wsX3_street (wsV RX3 66 RX3 yX3_fail wsX3_fail) := goodIn_app (goodIn_of _ (by decide +kernel)) ggX3_street_X3_fail
set_option maxRecDepth 20000 in
theorem ggX3_street_X3_isIn : GoodIn wsX3_street wsX3_isIn := goodIn_r _ [17] (by decide +kernel) (by decide +kernel)
set_option maxRecDepth 20000 in
theorem gX3_street_X3_isIn : GoodIn wsX3_street (va_wsS RX3 41 yX3_isIn wsX3_isIn) := goodIn_app (goodIn_of _ (by decide +kernel)) ggX3_street_X3_isIn
set_option maxRecDepth 20000 in
theorem ggX3_street_X3_reckon : GoodIn wsX3_street wsX3_reckon := goodIn_r _ [25, 14, 26, 2, 27, 28, 29, 30, 31, 32, 33, 34, 35, 36, 37, 12, 38, 4, 39, 40, 41, 42, 43, 44, 45, 46, 47, 48, 49, 50, 51] (by decide +kernel) (by decide +kernel)
set_option maxRecDepth 20000 in
theorem gX3_street_X3_reckon : GoodIn wsX3_street (wsV RX3 70 RX3 yX3_reckon wsX3_reckon) := goodIn_app (goodIn_of _ (by decide +kernel)) ggX3_street_X3_reckon
theorem dX3_street_0 : decode cX3_street 0 = .ok (.aload_n 0, 1) := by decide +kernel
theorem dX3_street_1 : decode cX3_street 1 = .ok (.iconst 0, 1) := by decide +kernel
theorem dX3_street_2 : decode cX3_street 2 = .ok (.putfield 34, 3) := by decide +kernel
theorem dX3_street_5 : decode cX3_street 5 = .ok (.aload_n 0, 1) := by decide +kernel
theorem dX3_street_6 : decode cX3_street 6 = .ok (.iload_n 1, 1) := by decide +kernel
theorem dX3_street_7 : decode cX3_street 7 = .ok (.invokevirtual 73, 3) := by decide +kernel
theorem dX3_street_10 : decode cX3_street 10 = .ok (.ifCond .eq 11, 3) := by decide +kernel
theorem dX3_street_13 : decode cX3_street 13 = .ok (.aload_n 0, 1) := by decide +kernel
theorem dX3_street_14 : decode cX3_street 14 = .ok (.iload_n 2, 1) := by decide +kernel
theorem dX3_street_15 : decode cX3_street 15 = .ok (.invokevirtual 73, 3) := by decide +kernel
theorem dX3_street_18 : decode cX3_street 18 = .ok (.ifCond .ne 9, 3) := by decide +kernel
theorem dX3_street_21 : decode cX3_street 21 = .ok (.aload_n 0, 1) := by decide +kernel
theorem dX3_street_22 : decode cX3_street 22 = .ok (.iconst 1, 1) := by decide +kernel
theorem dX3_street_23 : decode cX3_street 23 = .ok (.invokevirtual 66, 3) := by decide +kernel
theorem dX3_street_26 : decode cX3_street 26 = .ok (.ireturn, 1) := by decide +kernel
theorem dX3_street_27 : decode cX3_street 27 = .ok (.iload_n 1, 1) := by decide +kernel
theorem dX3_street_28 : decode cX3_street 28 = .ok (.iload_n 2, 1) := by decide +kernel
theorem dX3_street_29 : decode cX3_street 29 = .ok (.if_icmp .eq 13, 3) := by decide +kernel
theorem dX3_street_32 : decode cX3_street 32 = .ok (.iload_n 3, 1) := by decide +kernel
theorem dX3_street_33 : decode cX3_street 33 = .ok (.iconst 1, 1) := by decide +kernel
theorem dX3_street_34 : decode cX3_street 34 = .ok (.bipush 9, 2) := by decide +kernel
theorem dX3_street_36 : decode cX3_street 36 = .ok (.invokestatic 41, 3) := by decide +kernel
theorem dX3_street_39 : decode cX3_street 39 = .ok (.ifCond .ne 9, 3) := by decide +kernel
theorem dX3_street_42 : decode cX3_street 42 = .ok (.aload_n 0, 1) := by decide +kernel
theorem dX3_street_43 : decode cX3_street 43 = .ok (.iconst 2, 1) := by decide +kernel
theorem dX3_street_44 : decode cX3_street 44 = .ok (.invokevirtual 66, 3) := by decide +kernel
theorem dX3_street_47 : decode cX3_street 47 = .ok (.ireturn, 1) := by decide +kernel
theorem dX3_street_48 : decode cX3_street 48 = .ok (.aload_n 0, 1) := by decide +kernel
theorem dX3_street_49 : decode cX3_street 49 = .ok (.getfield 45, 3) := by decide +kernel
theorem dX3_street_52 : decode cX3_street 52 = .ok (.bipush 18, 2) := by decide +kernel
theorem dX3_street_54 : decode cX3_street 54 = .ok (.if_icmp .ne 9, 3) := by decide +kernel
theorem dX3_street_57 : decode cX3_street 57 = .ok (.aload_n 0, 1) := by decide +kernel
theorem dX3_street_58 : decode cX3_street 58 = .ok (.iconst 3, 1) := by decide +kernel
theorem dX3_street_59 : decode cX3_street 59 = .ok (.invokevirtual 66, 3) := by decide +kernel
theorem dX3_street_62 : decode cX3_street 62 = .ok (.ireturn, 1) := by decide +kernel
theorem dX3_street_63 : decode cX3_street 63 = .ok (.iconst 3, 1) := by decide +kernel
theorem dX3_street_64 : decode cX3_street 64 = .ok (.newarray .int, 2) := by decide +kernel
theorem dX3_street_66 : decode cX3_street 66 = .ok (.dup, 1) := by decide +kernel
theorem dX3_street_67 : decode cX3_street 67 = .ok (.iconst 0, 1) := by decide +kernel
theorem dX3_street_68 : decode cX3_street 68 = .ok (.iload_n 1, 1) := by decide +kernel
theorem dX3_street_69 : decode cX3_street 69 = .ok (.iastore, 1) := by decide +kernel
theorem dX3_street_70 : decode cX3_street 70 = .ok (.dup, 1) := by decide +kernel
theorem dX3_street_71 : decode cX3_street 71 = .ok (.iconst 1, 1) := by decide +kernel
theorem dX3_street_72 : decode cX3_street 72 = .ok (.iload_n 2, 1) := by decide +kernel
theorem dX3_street_73 : decode cX3_street 73 = .ok (.iastore, 1) := by decide +kernel
theorem dX3_street_74 : decode cX3_street 74 = .ok (.dup, 1) := by decide +kernel
theorem dX3_street_75 : decode cX3_street 75 = .ok (.iconst 2, 1) := by decide +kernel
theorem dX3_street_76 : decode cX3_street 76 = .ok (.iload_n 3, 1) := by decide +kernel
theorem dX3_street_77 : decode cX3_street 77 = .ok (.iastore, 1) := by decide +kernel
theorem dX3_street_78 : decode cX3_street 78 = .ok (.astore 4, 2) := by decide +kernel
theorem dX3_street_80 : decode cX3_street 80 = .ok (.aload 4, 2) := by decide +kernel
theorem dX3_street_82 : decode cX3_street 82 = .ok (.iconst 0, 1) := by decide +kernel
theorem dX3_street_83 : decode cX3_street 83 = .ok (.aload_n 0, 1) := by decide +kernel
theorem dX3_street_84 : decode cX3_street 84 = .ok (.getfield 13, 3) := by decide +kernel
theorem dX3_street_87 : decode cX3_street 87 = .ok (.iconst 3, 1) := by decide +kernel
theorem dX3_street_88 : decode cX3_street 88 = .ok (.aload_n 0, 1) := by decide +kernel
theorem dX3_street_89 : decode cX3_street 89 = .ok (.getfield 45, 3) := by decide +kernel
theorem dX3_street_92 : decode cX3_street 92 = .ok (.imul, 1) := by decide +kernel
theorem dX3_street_93 : decode cX3_street 93 = .ok (.iconst 3, 1) := by decide +kernel
theorem dX3_street_94 : decode cX3_street 94 = .ok (.invokestatic 77, 3) := by decide +kernel
theorem dX3_street_97 : decode cX3_street 97 = .ok (.aload_n 0, 1) := by decide +kernel
theorem dX3_street_98 : decode cX3_street 98 = .ok (.dup, 1) := by decide +kernel
theorem dX3_street_99 : decode cX3_street 99 = .ok (.getfield 45, 3) := by decide +kernel
theorem dX3_street_102 : decode cX3_street 102 = .ok (.iconst 1, 1) := by decide +kernel
theorem dX3_street_103 : decode cX3_street 103 = .ok (.iadd, 1) := by decide +kernel
theorem dX3_street_104 : decode cX3_street 104 = .ok (.putfield 45, 3) := by decide +kernel
theorem dX3_street_107 : decode cX3_street 107 = .ok (.aload_n 0, 1) := by decide +kernel
theorem dX3_street_108 : decode cX3_street 108 = .ok (.invokevirtual 70, 3) := by decide +kernel
theorem dX3_street_111 : decode cX3_street 111 = .ok (.aload_n 0, 1) := by decide +kernel
theorem dX3_street_112 : decode cX3_street 112 = .ok (.getfield 45, 3) := by decide +kernel
theorem dX3_street_115 : decode cX3_street 115 = .ok (.iconst 1, 1) := by decide +kernel
theorem dX3_street_116 : decode cX3_street 116 = .ok (.isub, 1) := by decide +kernel
theorem dX3_street_117 : decode cX3_street 117 = .ok (.ireturn, 1) := by decide +kernel
set_option maxRecDepth 20000 in
theorem ggX3_lamp_X3_isStreet : GoodIn wsX3_lamp wsX3_isStreet := goodIn_r _ [13, 14, 15, 16, 12, 17, 22, 23, 24, 25, 26, 27, 28, 29, 30, 31, 32, 33, 34] (by decide +kernel) (by decide +kernel)
set_option maxRecDepth 20000 in
theorem gX3_lamp_X3_isStreet : GoodIn wsX3_lamp (wsV RX3 83 RX3 yX3_isStreet wsX3_isStreet) := goodIn_app (goodIn_of _ (by decide +kernel)) ggX3_lamp_X3_isStreet
set_option maxRecDepth 20000 in
theorem ggX3_lamp_X3_fail : GoodIn wsX3_lamp wsX3_fail := goodIn_r _ [21, 1, 22, 23, 24, 25, 26, 27, 28, 29, 30, 31, 32, 33, 34] (by decide +kernel) (by decide +kernel)
set_option maxRecDepth 20000 in
theorem gX3_lamp_X3_fail : GoodIn wsX3_lamp (wsV RX3 66 RX3 yX3_fail wsX3_fail) := goodIn_app (goodIn_of _ (by decide +kernel)) ggX3_lamp_X3_fail
set_option maxRecDepth 20000 in
theorem ggX3_lamp_X3_isIn : GoodIn wsX3_lamp wsX3_isIn := goodIn_r _ [17] (by decide +kernel) (by decide +kernel)
set_option maxRecDepth 20000 in
theorem gX3_lamp_X3_isIn : GoodIn wsX3_lamp (va_wsS RX3 41 yX3_isIn wsX3_isIn) := goodIn_app (goodIn_of _ (by decide +kernel)) ggX3_lamp_X3_isIn
theorem dX3_lamp_0 : decode cX3_lamp 0 = .ok (.aload_n 0, 1) := by decide +kernel
theorem dX3_lamp_1 : decode cX3_lamp 1 = .ok (.iconst 0, 1) := by decide +kernel
theorem dX3_lamp_2 : decode cX3_lamp 2 = .ok (.putfield 34, 3) := by decide +kernel
theorem dX3_lamp_5 : decode cX3_lamp 5 = .ok (.aload_n 0, 1) := by decide +kernel
theorem dX3_lamp_6 : decode cX3_lamp 6 = .ok (.iload_n 1, 1) := by decide +kernel
theorem dX3_lamp_7 : decode cX3_lamp 7 = .ok (.invokevirtual 83, 3) := by decide +kernel
theorem dX3_lamp_10 : decode cX3_lamp 10 = .ok (.ifCond .ne 9, 3) := by decide +kernel
theorem dX3_lamp_13 : decode cX3_lamp 13 = .ok (.aload_n 0, 1) := by decide +kernel
theorem dX3_lamp_14 : decode cX3_lamp 14 = .ok (.iconst 1, 1) := by decide +kernel
theorem dX3_lamp_15 : decode cX3_lamp 15 = .ok (.invokevirtual 66, 3) := by decide +kernel
theorem dX3_lamp_18 : decode cX3_lamp 18 = .ok (.ireturn, 1) := by decide +kernel
theorem dX3_lamp_19 : decode cX3_lamp 19 = .ok (.iload_n 2, 1) := by decide +kernel
theorem dX3_lamp_20 : decode cX3_lamp 20 = .ok (.iconst 2, 1) := by decide +kernel
theorem dX3_lamp_21 : decode cX3_lamp 21 = .ok (.bipush 9, 2) := by decide +kernel
theorem dX3_lamp_23 : decode cX3_lamp 23 = .ok (.invokestatic 41, 3) := by decide +kernel
theorem dX3_lamp_26 : decode cX3_lamp 26 = .ok (.ifCond .ne 9, 3) := by decide +kernel
theorem dX3_lamp_29 : decode cX3_lamp 29 = .ok (.aload_n 0, 1) := by decide +kernel
theorem dX3_lamp_30 : decode cX3_lamp 30 = .ok (.iconst 2, 1) := by decide +kernel
theorem dX3_lamp_31 : decode cX3_lamp 31 = .ok (.invokevirtual 66, 3) := by decide +kernel
theorem dX3_lamp_34 : decode cX3_lamp 34 = .ok (.ireturn, 1) := by decide +kernel
theorem dX3_lamp_35 : decode cX3_lamp 35 = .ok (.aload_n 0, 1) := by decide +kernel
theorem dX3_lamp_36 : decode cX3_lamp 36 = .ok (.getfield 48, 3) := by decide +kernel
theorem dX3_lamp_39 : decode cX3_lamp 39 = .ok (.bipush 20, 2) := by decide +kernel
theorem dX3_lamp_41 : decode cX3_lamp 41 = .ok (.if_icmp .ne 9, 3) := by decide +kernel
theorem dX3_lamp_44 : decode cX3_lamp 44 = .ok (.aload_n 0, 1) := by decide +kernel
theorem dX3_lamp_45 : decode cX3_lamp 45 = .ok (.iconst 3, 1) := by decide +kernel
theorem dX3_lamp_46 : decode cX3_lamp 46 = .ok (.invokevirtual 66, 3) := by decide +kernel
theorem dX3_lamp_49 : decode cX3_lamp 49 = .ok (.ireturn, 1) := by decide +kernel
theorem dX3_lamp_50 : decode cX3_lamp 50 = .ok (.bipush 8, 2) := by decide +kernel
theorem dX3_lamp_52 : decode cX3_lamp 52 = .ok (.newarray .int, 2) := by decide +kernel
theorem dX3_lamp_54 : decode cX3_lamp 54 = .ok (.dup, 1) := by decide +kernel
theorem dX3_lamp_55 : decode cX3_lamp 55 = .ok (.iconst 0, 1) := by decide +kernel
theorem dX3_lamp_56 : decode cX3_lamp 56 = .ok (.iload_n 1, 1) := by decide +kernel
theorem dX3_lamp_57 : decode cX3_lamp 57 = .ok (.iastore, 1) := by decide +kernel
theorem dX3_lamp_58 : decode cX3_lamp 58 = .ok (.dup, 1) := by decide +kernel
theorem dX3_lamp_59 : decode cX3_lamp 59 = .ok (.iconst 1, 1) := by decide +kernel
theorem dX3_lamp_60 : decode cX3_lamp 60 = .ok (.iload_n 2, 1) := by decide +kernel
theorem dX3_lamp_61 : decode cX3_lamp 61 = .ok (.iastore, 1) := by decide +kernel
theorem dX3_lamp_62 : decode cX3_lamp 62 = .ok (.dup, 1) := by decide +kernel
theorem dX3_lamp_63 : decode cX3_lamp 63 = .ok (.iconst 2, 1) := by decide +kernel
theorem dX3_lamp_64 : decode cX3_lamp 64 = .ok (.iconst 0, 1) := by decide +kernel
theorem dX3_lamp_65 : decode cX3_lamp 65 = .ok (.iastore, 1) := by decide +kernel
theorem dX3_lamp_66 : decode cX3_lamp 66 = .ok (.dup, 1) := by decide +kernel
theorem dX3_lamp_67 : decode cX3_lamp 67 = .ok (.iconst 3, 1) := by decide +kernel
theorem dX3_lamp_68 : decode cX3_lamp 68 = .ok (.iconst 0, 1) := by decide +kernel
theorem dX3_lamp_69 : decode cX3_lamp 69 = .ok (.iastore, 1) := by decide +kernel
theorem dX3_lamp_70 : decode cX3_lamp 70 = .ok (.dup, 1) := by decide +kernel
theorem dX3_lamp_71 : decode cX3_lamp 71 = .ok (.iconst 4, 1) := by decide +kernel
theorem dX3_lamp_72 : decode cX3_lamp 72 = .ok (.iconst 0, 1) := by decide +kernel
theorem dX3_lamp_73 : decode cX3_lamp 73 = .ok (.iastore, 1) := by decide +kernel
theorem dX3_lamp_74 : decode cX3_lamp 74 = .ok (.dup, 1) := by decide +kernel
theorem dX3_lamp_75 : decode cX3_lamp 75 = .ok (.iconst 5, 1) := by decide +kernel
theorem dX3_lamp_76 : decode cX3_lamp 76 = .ok (.iconst 0, 1) := by decide +kernel
theorem dX3_lamp_77 : decode cX3_lamp 77 = .ok (.iastore, 1) := by decide +kernel
theorem dX3_lamp_78 : decode cX3_lamp 78 = .ok (.dup, 1) := by decide +kernel
theorem dX3_lamp_79 : decode cX3_lamp 79 = .ok (.bipush 6, 2) := by decide +kernel
theorem dX3_lamp_81 : decode cX3_lamp 81 = .ok (.iconst 0, 1) := by decide +kernel
theorem dX3_lamp_82 : decode cX3_lamp 82 = .ok (.iastore, 1) := by decide +kernel
theorem dX3_lamp_83 : decode cX3_lamp 83 = .ok (.dup, 1) := by decide +kernel
theorem dX3_lamp_84 : decode cX3_lamp 84 = .ok (.bipush 7, 2) := by decide +kernel
theorem dX3_lamp_86 : decode cX3_lamp 86 = .ok (.iconst 0, 1) := by decide +kernel
theorem dX3_lamp_87 : decode cX3_lamp 87 = .ok (.iastore, 1) := by decide +kernel
theorem dX3_lamp_88 : decode cX3_lamp 88 = .ok (.astore_n 3, 1) := by decide +kernel
theorem dX3_lamp_89 : decode cX3_lamp 89 = .ok (.aload_n 3, 1) := by decide +kernel
theorem dX3_lamp_90 : decode cX3_lamp 90 = .ok (.iconst 0, 1) := by decide +kernel
theorem dX3_lamp_91 : decode cX3_lamp 91 = .ok (.aload_n 0, 1) := by decide +kernel
theorem dX3_lamp_92 : decode cX3_lamp 92 = .ok (.getfield 19, 3) := by decide +kernel
theorem dX3_lamp_95 : decode cX3_lamp 95 = .ok (.bipush 8, 2) := by decide +kernel
theorem dX3_lamp_97 : decode cX3_lamp 97 = .ok (.aload_n 0, 1) := by decide +kernel
theorem dX3_lamp_98 : decode cX3_lamp 98 = .ok (.getfield 48, 3) := by decide +kernel
theorem dX3_lamp_101 : decode cX3_lamp 101 = .ok (.imul, 1) := by decide +kernel
theorem dX3_lamp_102 : decode cX3_lamp 102 = .ok (.bipush 8, 2) := by decide +kernel
theorem dX3_lamp_104 : decode cX3_lamp 104 = .ok (.invokestatic 77, 3) := by decide +kernel
theorem dX3_lamp_107 : decode cX3_lamp 107 = .ok (.aload_n 0, 1) := by decide +kernel
theorem dX3_lamp_108 : decode cX3_lamp 108 = .ok (.dup, 1) := by decide +kernel
theorem dX3_lamp_109 : decode cX3_lamp 109 = .ok (.getfield 48, 3) := by decide +kernel
theorem dX3_lamp_112 : decode cX3_lamp 112 = .ok (.iconst 1, 1) := by decide +kernel
theorem dX3_lamp_113 : decode cX3_lamp 113 = .ok (.iadd, 1) := by decide +kernel
theorem dX3_lamp_114 : decode cX3_lamp 114 = .ok (.putfield 48, 3) := by decide +kernel
theorem dX3_lamp_117 : decode cX3_lamp 117 = .ok (.aload_n 0, 1) := by decide +kernel
theorem dX3_lamp_118 : decode cX3_lamp 118 = .ok (.getfield 48, 3) := by decide +kernel
theorem dX3_lamp_121 : decode cX3_lamp 121 = .ok (.iconst 1, 1) := by decide +kernel
theorem dX3_lamp_122 : decode cX3_lamp 122 = .ok (.isub, 1) := by decide +kernel
theorem dX3_lamp_123 : decode cX3_lamp 123 = .ok (.ireturn, 1) := by decide +kernel
set_option maxRecDepth 20000 in
theorem ggX3_lid_X3_isLamp : GoodIn wsX3_lid wsX3_isLamp := goodIn_r _ [6, 7, 8, 9, 5, 10, 24, 25, 26, 27, 28, 29, 30, 31, 32, 33, 34, 35, 36] (by decide +kernel) (by decide +kernel)
set_option maxRecDepth 20000 in
theorem gX3_lid_X3_isLamp : GoodIn wsX3_lid (wsV RX3 86 RX3 yX3_isLamp wsX3_isLamp) := goodIn_app (goodIn_of _ (by decide +kernel)) ggX3_lid_X3_isLamp
set_option maxRecDepth 20000 in
theorem ggX3_lid_X3_fail : GoodIn wsX3_lid wsX3_fail := goodIn_r _ [14, 1, 24, 25, 26, 27, 28, 29, 30, 31, 32, 33, 34, 35, 36] (by decide +kernel) (by decide +kernel)
set_option maxRecDepth 20000 in
theorem gX3_lid_X3_fail : GoodIn wsX3_lid (wsV RX3 66 RX3 yX3_fail wsX3_fail) := goodIn_app (goodIn_of _ (by decide +kernel)) ggX3_lid_X3_fail
set_option maxRecDepth 20000 in
theorem ggX3_lid_X3_isIn : GoodIn wsX3_lid wsX3_isIn := goodIn_r _ [10] (by decide +kernel) (by decide +kernel)
set_option maxRecDepth 20000 in
theorem gX3_lid_X3_isIn : GoodIn wsX3_lid (va_wsS RX3 41 yX3_isIn wsX3_isIn) := goodIn_app (goodIn_of _ (by decide +kernel)) ggX3_lid_X3_isIn
set_option maxRecDepth 20000 in
theorem ggX3_lid_X3_la : GoodIn wsX3_lid wsX3_la := goodIn_r _ [18, 19, 24, 25, 26, 27, 28, 29, 30, 31, 32, 33, 34, 35, 36] (by decide +kernel) (by decide +kernel)
set_option maxRecDepth 20000 in
theorem gX3_lid_X3_la : GoodIn wsX3_lid (wsV RX3 89 RX3 yX3_la wsX3_la) := goodIn_app (goodIn_of _ (by decide +kernel)) ggX3_lid_X3_la
set_option maxRecDepth 20000 in
theorem ggX3_lid_X3_setLamp : GoodIn wsX3_lid wsX3_setLamp := goodIn_r _ [23, 19, 24, 25, 26, 27, 28, 29, 30, 31, 32, 33, 34, 35, 36] (by decide +kernel) (by decide +kernel)
set_option maxRecDepth 20000 in
theorem gX3_lid_X3_setLamp : GoodIn wsX3_lid (wsV RX3 92 RX3 yX3_setLamp wsX3_setLamp) := goodIn_app (goodIn_of _ (by decide +kernel)) ggX3_lid_X3_setLamp
theorem dX3_lid_0 : decode cX3_lid 0 = .ok (.aload_n 0, 1) := by decide +kernel
theorem dX3_lid_1 : decode cX3_lid 1 = .ok (.iconst 0, 1) := by decide +kernel
theorem dX3_lid_2 : decode cX3_lid 2 = .ok (.putfield 34, 3) := by decide +kernel
theorem dX3_lid_5 : decode cX3_lid 5 = .ok (.aload_n 0, 1) := by decide +kernel
theorem dX3_lid_6 : decode cX3_lid 6 = .ok (.iload_n 1, 1) := by decide +kernel
theorem dX3_lid_7 : decode cX3_lid 7 = .ok (.invokevirtual 86, 3) := by decide +kernel
theorem dX3_lid_10 : decode cX3_lid 10 = .ok (.ifCond .ne 9, 3) := by decide +kernel
theorem dX3_lid_13 : decode cX3_lid 13 = .ok (.aload_n 0, 1) := by decide +kernel
theorem dX3_lid_14 : decode cX3_lid 14 = .ok (.iconst 1, 1) := by decide +kernel
theorem dX3_lid_15 : decode cX3_lid 15 = .ok (.invokevirtual 66, 3) := by decide +kernel
theorem dX3_lid_18 : decode cX3_lid 18 = .ok (.ireturn, 1) := by decide +kernel
theorem dX3_lid_19 : decode cX3_lid 19 = .ok (.iload_n 2, 1) := by decide +kernel
theorem dX3_lid_20 : decode cX3_lid 20 = .ok (.iconst 0, 1) := by decide +kernel
theorem dX3_lid_21 : decode cX3_lid 21 = .ok (.bipush 9, 2) := by decide +kernel
theorem dX3_lid_23 : decode cX3_lid 23 = .ok (.invokestatic 41, 3) := by decide +kernel
theorem dX3_lid_26 : decode cX3_lid 26 = .ok (.ifCond .ne 9, 3) := by decide +kernel
theorem dX3_lid_29 : decode cX3_lid 29 = .ok (.aload_n 0, 1) := by decide +kernel
theorem dX3_lid_30 : decode cX3_lid 30 = .ok (.iconst 2, 1) := by decide +kernel
theorem dX3_lid_31 : decode cX3_lid 31 = .ok (.invokevirtual 66, 3) := by decide +kernel
theorem dX3_lid_34 : decode cX3_lid 34 = .ok (.ireturn, 1) := by decide +kernel
theorem dX3_lid_35 : decode cX3_lid 35 = .ok (.aload_n 0, 1) := by decide +kernel
theorem dX3_lid_36 : decode cX3_lid 36 = .ok (.iload_n 1, 1) := by decide +kernel
theorem dX3_lid_37 : decode cX3_lid 37 = .ok (.iconst 2, 1) := by decide +kernel
theorem dX3_lid_38 : decode cX3_lid 38 = .ok (.invokevirtual 89, 3) := by decide +kernel
theorem dX3_lid_41 : decode cX3_lid 41 = .ok (.istore_n 3, 1) := by decide +kernel
theorem dX3_lid_42 : decode cX3_lid 42 = .ok (.aload_n 0, 1) := by decide +kernel
theorem dX3_lid_43 : decode cX3_lid 43 = .ok (.iload_n 1, 1) := by decide +kernel
theorem dX3_lid_44 : decode cX3_lid 44 = .ok (.iconst 2, 1) := by decide +kernel
theorem dX3_lid_45 : decode cX3_lid 45 = .ok (.iload_n 2, 1) := by decide +kernel
theorem dX3_lid_46 : decode cX3_lid 46 = .ok (.invokevirtual 92, 3) := by decide +kernel
theorem dX3_lid_49 : decode cX3_lid 49 = .ok (.iload_n 3, 1) := by decide +kernel
theorem dX3_lid_50 : decode cX3_lid 50 = .ok (.ireturn, 1) := by decide +kernel
set_option maxRecDepth 20000 in
theorem ggX3_setWind_X3_isIn : GoodIn wsX3_setWind wsX3_isIn := goodIn_r _ [6] (by decide +kernel) (by decide +kernel)
set_option maxRecDepth 20000 in
theorem gX3_setWind_X3_isIn : GoodIn wsX3_setWind (va_wsS RX3 41 yX3_isIn wsX3_isIn) := goodIn_app (goodIn_of _ (by decide +kernel)) ggX3_setWind_X3_isIn
set_option maxRecDepth 20000 in
theorem ggX3_setWind_X3_fail : GoodIn wsX3_setWind wsX3_fail := goodIn_r _ [10, 1, 11, 12, 13, 14, 15, 16, 17, 18, 19, 20, 21, 22, 23] (by decide +kernel) (by decide +kernel)
set_option maxRecDepth 20000 in
theorem gX3_setWind_X3_fail : GoodIn wsX3_setWind (wsV RX3 66 RX3 yX3_fail wsX3_fail) := goodIn_app (goodIn_of _ (by decide +kernel)) ggX3_setWind_X3_fail
theorem dX3_setWind_0 : decode cX3_setWind 0 = .ok (.aload_n 0, 1) := by decide +kernel
theorem dX3_setWind_1 : decode cX3_setWind 1 = .ok (.iconst 0, 1) := by decide +kernel
theorem dX3_setWind_2 : decode cX3_setWind 2 = .ok (.putfield 34, 3) := by decide +kernel
theorem dX3_setWind_5 : decode cX3_setWind 5 = .ok (.iload_n 1, 1) := by decide +kernel
theorem dX3_setWind_6 : decode cX3_setWind 6 = .ok (.iconst 0, 1) := by decide +kernel
theorem dX3_setWind_7 : decode cX3_setWind 7 = .ok (.bipush 9, 2) := by decide +kernel
theorem dX3_setWind_9 : decode cX3_setWind 9 = .ok (.invokestatic 41, 3) := by decide +kernel
theorem dX3_setWind_12 : decode cX3_setWind 12 = .ok (.ifCond .ne 9, 3) := by decide +kernel
theorem dX3_setWind_15 : decode cX3_setWind 15 = .ok (.aload_n 0, 1) := by decide +kernel
theorem dX3_setWind_16 : decode cX3_setWind 16 = .ok (.iconst 1, 1) := by decide +kernel
theorem dX3_setWind_17 : decode cX3_setWind 17 = .ok (.invokevirtual 66, 3) := by decide +kernel
theorem dX3_setWind_20 : decode cX3_setWind 20 = .ok (.ireturn, 1) := by decide +kernel
theorem dX3_setWind_21 : decode cX3_setWind 21 = .ok (.iload_n 2, 1) := by decide +kernel
theorem dX3_setWind_22 : decode cX3_setWind 22 = .ok (.iconst 0, 1) := by decide +kernel
theorem dX3_setWind_23 : decode cX3_setWind 23 = .ok (.bipush 9, 2) := by decide +kernel
theorem dX3_setWind_25 : decode cX3_setWind 25 = .ok (.invokestatic 41, 3) := by decide +kernel
theorem dX3_setWind_28 : decode cX3_setWind 28 = .ok (.ifCond .ne 9, 3) := by decide +kernel
theorem dX3_setWind_31 : decode cX3_setWind 31 = .ok (.aload_n 0, 1) := by decide +kernel
theorem dX3_setWind_32 : decode cX3_setWind 32 = .ok (.iconst 2, 1) := by decide +kernel
theorem dX3_setWind_33 : decode cX3_setWind 33 = .ok (.invokevirtual 66, 3) := by decide +kernel
theorem dX3_setWind_36 : decode cX3_setWind 36 = .ok (.ireturn, 1) := by decide +kernel
theorem dX3_setWind_37 : decode cX3_setWind 37 = .ok (.aload_n 0, 1) := by decide +kernel
theorem dX3_setWind_38 : decode cX3_setWind 38 = .ok (.getfield 28, 3) := by decide +kernel
theorem dX3_setWind_41 : decode cX3_setWind 41 = .ok (.iload_n 1, 1) := by decide +kernel
theorem dX3_setWind_42 : decode cX3_setWind 42 = .ok (.iaload, 1) := by decide +kernel
theorem dX3_setWind_43 : decode cX3_setWind 43 = .ok (.istore_n 3, 1) := by decide +kernel
theorem dX3_setWind_44 : decode cX3_setWind 44 = .ok (.aload_n 0, 1) := by decide +kernel
theorem dX3_setWind_45 : decode cX3_setWind 45 = .ok (.getfield 28, 3) := by decide +kernel
theorem dX3_setWind_48 : decode cX3_setWind 48 = .ok (.iload_n 1, 1) := by decide +kernel
theorem dX3_setWind_49 : decode cX3_setWind 49 = .ok (.iload_n 2, 1) := by decide +kernel
theorem dX3_setWind_50 : decode cX3_setWind 50 = .ok (.iastore, 1) := by decide +kernel
theorem dX3_setWind_51 : decode cX3_setWind 51 = .ok (.iload_n 3, 1) := by decide +kernel
theorem dX3_setWind_52 : decode cX3_setWind 52 = .ok (.ireturn, 1) := by decide +kernel
set_option maxRecDepth 20000 in
theorem ggX3_hire_X3_isCorner : GoodIn wsX3_hire wsX3_isCorner := goodIn_r _ [13, 14, 15, 16, 12, 17, 22, 23, 24, 25, 26, 27, 28, 29, 30, 31, 32, 33, 34] (by decide +kernel) (by decide +kernel)
set_option maxRecDepth 20000 in
theorem gX3_hire_X3_isCorner : GoodIn wsX3_hire (wsV RX3 73 RX3 yX3_isCorner wsX3_isCorner) := goodIn_app (goodIn_of _ (by decide +kernel)) ggX3_hire_X3_isCorner
set_option maxRecDepth 20000 in
theorem ggX3_hire_X3_fail : GoodIn wsX3_hire wsX3_fail := goodIn_r _ [21, 1, 22, 23, 24, 25, 26, 27, 28, 29, 30, 31, 32, 33, 34] (by decide +kernel) (by decide +kernel)
set_option maxRecDepth 20000 in
theorem gX3_hire_X3_fail : GoodIn wsX3_hire (wsV RX3 66 RX3 yX3_fail wsX3_fail) := goodIn_app (goodIn_of _ (by decide +kernel)) ggX3_hire_X3_fail
set_option maxRecDepth 20000 in
theorem ggX3_hire_X3_isIn : GoodIn wsX3_hire wsX3_isIn := goodIn_r _ [17] (by decide +kernel) (by decide +kernel)
set_option maxRecDepth 20000 in
theorem gX3_hire_X3_isIn : GoodIn wsX3_hire (va_wsS RX3 41 yX3_isIn wsX3_isIn) := goodIn_app (goodIn_of _ (by decide +kernel)) ggX3_hire_X3_isIn
theorem dX3_hire_0 : decode cX3_hire 0 = .ok (.aload_n 0, 1) := by decide +kernel
theorem dX3_hire_1 : decode cX3_hire 1 = .ok (.iconst 0, 1) := by decide +kernel
theorem dX3_hire_2 : decode cX3_hire 2 = .ok (.putfield 34, 3) := by decide +kernel
theorem dX3_hire_5 : decode cX3_hire 5 = .ok (.aload_n 0, 1) := by decide +kernel
theorem dX3_hire_6 : decode cX3_hire 6 = .ok (.iload_n 1, 1) := by decide +kernel
theorem dX3_hire_7 : decode cX3_hire 7 = .ok (.invokevirtual 73, 3) := by decide +kernel
theorem dX3_hire_10 : decode cX3_hire 10 = .ok (.ifCond .ne 9, 3) := by decide +kernel
theorem dX3_hire_13 : decode cX3_hire 13 = .ok (.aload_n 0, 1) := by decide +kernel
theorem dX3_hire_14 : decode cX3_hire 14 = .ok (.iconst 1, 1) := by decide +kernel
theorem dX3_hire_15 : decode cX3_hire 15 = .ok (.invokevirtual 66, 3) := by decide +kernel
theorem dX3_hire_18 : decode cX3_hire 18 = .ok (.ireturn, 1) := by decide +kernel
theorem dX3_hire_19 : decode cX3_hire 19 = .ok (.iload_n 2, 1) := by decide +kernel
theorem dX3_hire_20 : decode cX3_hire 20 = .ok (.iconst 1, 1) := by decide +kernel
theorem dX3_hire_21 : decode cX3_hire 21 = .ok (.bipush 9, 2) := by decide +kernel
theorem dX3_hire_23 : decode cX3_hire 23 = .ok (.invokestatic 41, 3) := by decide +kernel
theorem dX3_hire_26 : decode cX3_hire 26 = .ok (.ifCond .eq 14, 3) := by decide +kernel
theorem dX3_hire_29 : decode cX3_hire 29 = .ok (.iload_n 3, 1) := by decide +kernel
theorem dX3_hire_30 : decode cX3_hire 30 = .ok (.iconst 0, 1) := by decide +kernel
theorem dX3_hire_31 : decode cX3_hire 31 = .ok (.sipush 999, 3) := by decide +kernel
theorem dX3_hire_34 : decode cX3_hire 34 = .ok (.invokestatic 41, 3) := by decide +kernel
theorem dX3_hire_37 : decode cX3_hire 37 = .ok (.ifCond .ne 9, 3) := by decide +kernel
theorem dX3_hire_40 : decode cX3_hire 40 = .ok (.aload_n 0, 1) := by decide +kernel
theorem dX3_hire_41 : decode cX3_hire 41 = .ok (.iconst 2, 1) := by decide +kernel
theorem dX3_hire_42 : decode cX3_hire 42 = .ok (.invokevirtual 66, 3) := by decide +kernel
theorem dX3_hire_45 : decode cX3_hire 45 = .ok (.ireturn, 1) := by decide +kernel
theorem dX3_hire_46 : decode cX3_hire 46 = .ok (.aload_n 0, 1) := by decide +kernel
theorem dX3_hire_47 : decode cX3_hire 47 = .ok (.getfield 51, 3) := by decide +kernel
theorem dX3_hire_50 : decode cX3_hire 50 = .ok (.iconst 4, 1) := by decide +kernel
theorem dX3_hire_51 : decode cX3_hire 51 = .ok (.if_icmp .ne 9, 3) := by decide +kernel
theorem dX3_hire_54 : decode cX3_hire 54 = .ok (.aload_n 0, 1) := by decide +kernel
theorem dX3_hire_55 : decode cX3_hire 55 = .ok (.iconst 3, 1) := by decide +kernel
theorem dX3_hire_56 : decode cX3_hire 56 = .ok (.invokevirtual 66, 3) := by decide +kernel
theorem dX3_hire_59 : decode cX3_hire 59 = .ok (.ireturn, 1) := by decide +kernel
theorem dX3_hire_60 : decode cX3_hire 60 = .ok (.bipush 10, 2) := by decide +kernel
theorem dX3_hire_62 : decode cX3_hire 62 = .ok (.newarray .int, 2) := by decide +kernel
theorem dX3_hire_64 : decode cX3_hire 64 = .ok (.dup, 1) := by decide +kernel
theorem dX3_hire_65 : decode cX3_hire 65 = .ok (.iconst 0, 1) := by decide +kernel
theorem dX3_hire_66 : decode cX3_hire 66 = .ok (.iload_n 1, 1) := by decide +kernel
theorem dX3_hire_67 : decode cX3_hire 67 = .ok (.iastore, 1) := by decide +kernel
theorem dX3_hire_68 : decode cX3_hire 68 = .ok (.dup, 1) := by decide +kernel
theorem dX3_hire_69 : decode cX3_hire 69 = .ok (.iconst 1, 1) := by decide +kernel
theorem dX3_hire_70 : decode cX3_hire 70 = .ok (.iload_n 1, 1) := by decide +kernel
theorem dX3_hire_71 : decode cX3_hire 71 = .ok (.iastore, 1) := by decide +kernel
theorem dX3_hire_72 : decode cX3_hire 72 = .ok (.dup, 1) := by decide +kernel
theorem dX3_hire_73 : decode cX3_hire 73 = .ok (.iconst 2, 1) := by decide +kernel
theorem dX3_hire_74 : decode cX3_hire 74 = .ok (.iload_n 2, 1) := by decide +kernel
theorem dX3_hire_75 : decode cX3_hire 75 = .ok (.iastore, 1) := by decide +kernel
theorem dX3_hire_76 : decode cX3_hire 76 = .ok (.dup, 1) := by decide +kernel
theorem dX3_hire_77 : decode cX3_hire 77 = .ok (.iconst 3, 1) := by decide +kernel
theorem dX3_hire_78 : decode cX3_hire 78 = .ok (.iload_n 3, 1) := by decide +kernel
theorem dX3_hire_79 : decode cX3_hire 79 = .ok (.iastore, 1) := by decide +kernel
theorem dX3_hire_80 : decode cX3_hire 80 = .ok (.dup, 1) := by decide +kernel
theorem dX3_hire_81 : decode cX3_hire 81 = .ok (.iconst 4, 1) := by decide +kernel
theorem dX3_hire_82 : decode cX3_hire 82 = .ok (.iconst 0, 1) := by decide +kernel
theorem dX3_hire_83 : decode cX3_hire 83 = .ok (.iastore, 1) := by decide +kernel
theorem dX3_hire_84 : decode cX3_hire 84 = .ok (.dup, 1) := by decide +kernel
theorem dX3_hire_85 : decode cX3_hire 85 = .ok (.iconst 5, 1) := by decide +kernel
theorem dX3_hire_86 : decode cX3_hire 86 = .ok (.iconst (-1), 1) := by decide +kernel
theorem dX3_hire_87 : decode cX3_hire 87 = .ok (.iastore, 1) := by decide +kernel
theorem dX3_hire_88 : decode cX3_hire 88 = .ok (.dup, 1) := by decide +kernel
theorem dX3_hire_89 : decode cX3_hire 89 = .ok (.bipush 6, 2) := by decide +kernel
theorem dX3_hire_91 : decode cX3_hire 91 = .ok (.iconst 0, 1) := by decide +kernel
theorem dX3_hire_92 : decode cX3_hire 92 = .ok (.iastore, 1) := by decide +kernel
theorem dX3_hire_93 : decode cX3_hire 93 = .ok (.dup, 1) := by decide +kernel
theorem dX3_hire_94 : decode cX3_hire 94 = .ok (.bipush 7, 2) := by decide +kernel
theorem dX3_hire_96 : decode cX3_hire 96 = .ok (.iconst (-1), 1) := by decide +kernel
theorem dX3_hire_97 : decode cX3_hire 97 = .ok (.iastore, 1) := by decide +kernel
theorem dX3_hire_98 : decode cX3_hire 98 = .ok (.dup, 1) := by decide +kernel
theorem dX3_hire_99 : decode cX3_hire 99 = .ok (.bipush 8, 2) := by decide +kernel
theorem dX3_hire_101 : decode cX3_hire 101 = .ok (.iconst (-1), 1) := by decide +kernel
theorem dX3_hire_102 : decode cX3_hire 102 = .ok (.iastore, 1) := by decide +kernel
theorem dX3_hire_103 : decode cX3_hire 103 = .ok (.dup, 1) := by decide +kernel
theorem dX3_hire_104 : decode cX3_hire 104 = .ok (.bipush 9, 2) := by decide +kernel
theorem dX3_hire_106 : decode cX3_hire 106 = .ok (.iconst 0, 1) := by decide +kernel
theorem dX3_hire_107 : decode cX3_hire 107 = .ok (.iastore, 1) := by decide +kernel
theorem dX3_hire_108 : decode cX3_hire 108 = .ok (.astore 4, 2) := by decide +kernel
theorem dX3_hire_110 : decode cX3_hire 110 = .ok (.aload 4, 2) := by decide +kernel
theorem dX3_hire_112 : decode cX3_hire 112 = .ok (.iconst 0, 1) := by decide +kernel
theorem dX3_hire_113 : decode cX3_hire 113 = .ok (.aload_n 0, 1) := by decide +kernel
theorem dX3_hire_114 : decode cX3_hire 114 = .ok (.getfield 22, 3) := by decide +kernel
theorem dX3_hire_117 : decode cX3_hire 117 = .ok (.bipush 10, 2) := by decide +kernel
theorem dX3_hire_119 : decode cX3_hire 119 = .ok (.aload_n 0, 1) := by decide +kernel
theorem dX3_hire_120 : decode cX3_hire 120 = .ok (.getfield 51, 3) := by decide +kernel
theorem dX3_hire_123 : decode cX3_hire 123 = .ok (.imul, 1) := by decide +kernel
theorem dX3_hire_124 : decode cX3_hire 124 = .ok (.bipush 10, 2) := by decide +kernel
theorem dX3_hire_126 : decode cX3_hire 126 = .ok (.invokestatic 77, 3) := by decide +kernel
theorem dX3_hire_129 : decode cX3_hire 129 = .ok (.aload_n 0, 1) := by decide +kernel
theorem dX3_hire_130 : decode cX3_hire 130 = .ok (.dup, 1) := by decide +kernel
theorem dX3_hire_131 : decode cX3_hire 131 = .ok (.getfield 51, 3) := by decide +kernel
theorem dX3_hire_134 : decode cX3_hire 134 = .ok (.iconst 1, 1) := by decide +kernel
theorem dX3_hire_135 : decode cX3_hire 135 = .ok (.iadd, 1) := by decide +kernel
theorem dX3_hire_136 : decode cX3_hire 136 = .ok (.putfield 51, 3) := by decide +kernel
theorem dX3_hire_139 : decode cX3_hire 139 = .ok (.aload_n 0, 1) := by decide +kernel
theorem dX3_hire_140 : decode cX3_hire 140 = .ok (.getfield 51, 3) := by decide +kernel
theorem dX3_hire_143 : decode cX3_hire 143 = .ok (.iconst 1, 1) := by decide +kernel
theorem dX3_hire_144 : decode cX3_hire 144 = .ok (.isub, 1) := by decide +kernel
theorem dX3_hire_145 : decode cX3_hire 145 = .ok (.ireturn, 1) := by decide +kernel
set_option maxRecDepth 20000 in
theorem ggX3_round_X3_isLighter : GoodIn wsX3_round wsX3_isLighter := goodIn_r _ [7, 8, 9, 10, 6, 11, 30, 31, 32, 33, 34, 35, 36, 37, 38, 39, 40, 41, 42] (by decide +kernel) (by decide +kernel)
set_option maxRecDepth 20000 in
theorem gX3_round_X3_isLighter : GoodIn wsX3_round (wsV RX3 96 RX3 yX3_isLighter wsX3_isLighter) := goodIn_app (goodIn_of _ (by decide +kernel)) ggX3_round_X3_isLighter
set_option maxRecDepth 20000 in
theorem ggX3_round_X3_isLamp : GoodIn wsX3_round wsX3_isLamp := goodIn_r _ [15, 16, 9, 10, 6, 11, 30, 31, 32, 33, 34, 35, 36, 37, 38, 39, 40, 41, 42] (by decide +kernel) (by decide +kernel)
set_option maxRecDepth 20000 in
theorem gX3_round_X3_isLamp : GoodIn wsX3_round (wsV RX3 86 RX3 yX3_isLamp wsX3_isLamp) := goodIn_app (goodIn_of _ (by decide +kernel)) ggX3_round_X3_isLamp
set_option maxRecDepth 20000 in
theorem ggX3_round_X3_fail : GoodIn wsX3_round wsX3_fail := goodIn_r _ [20, 1, 30, 31, 32, 33, 34, 35, 36, 37, 38, 39, 40, 41, 42] (by decide +kernel) (by decide +kernel)
set_option maxRecDepth 20000 in
theorem gX3_round_X3_fail : GoodIn wsX3_round (wsV RX3 66 RX3 yX3_fail wsX3_fail) := goodIn_app (goodIn_of _ (by decide +kernel)) ggX3_round_X3_fail
set_option maxRecDepth 20000 in
theorem ggX3_round_X3_pe : GoodIn wsX3_round wsX3_pe := goodIn_r _ [24, 25, 30, 31, 32, 33, 34, 35, 36, 37, 38, 39, 40, 41, 42] (by decide +kernel) (by decide +kernel)
set_option maxRecDepth 20000 in
theorem gX3_round_X3_pe : GoodIn wsX3_round (wsV RX3 99 RX3 yX3_pe wsX3_pe) := goodIn_app (goodIn_of _ (by decide +kernel)) ggX3_round_X3_pe
set_option maxRecDepth 20000 in
theorem ggX3_round_X3_put : GoodIn wsX3_round wsX3_put := goodIn_r _ [29, 25, 30, 31, 32, 33, 34, 35, 36, 37, 38, 39, 40, 41, 42] (by decide +kernel) (by decide +kernel)
set_option maxRecDepth 20000 in
theorem gX3_round_X3_put : GoodIn wsX3_round (wsV RX3 102 RX3 yX3_put wsX3_put) := goodIn_app (goodIn_of _ (by decide +kernel)) ggX3_round_X3_put
theorem dX3_round_0 : decode cX3_round 0 = .ok (.aload_n 0, 1) := by decide +kernel
theorem dX3_round_1 : decode cX3_round 1 = .ok (.iconst 0, 1) := by decide +kernel
theorem dX3_round_2 : decode cX3_round 2 = .ok (.putfield 34, 3) := by decide +kernel
theorem dX3_round_5 : decode cX3_round 5 = .ok (.aload_n 0, 1) := by decide +kernel
theorem dX3_round_6 : decode cX3_round 6 = .ok (.iload_n 1, 1) := by decide +kernel
theorem dX3_round_7 : decode cX3_round 7 = .ok (.invokevirtual 96, 3) := by decide +kernel
theorem dX3_round_10 : decode cX3_round 10 = .ok (.ifCond .eq 11, 3) := by decide +kernel
theorem dX3_round_13 : decode cX3_round 13 = .ok (.aload_n 0, 1) := by decide +kernel
theorem dX3_round_14 : decode cX3_round 14 = .ok (.iload_n 2, 1) := by decide +kernel
theorem dX3_round_15 : decode cX3_round 15 = .ok (.invokevirtual 86, 3) := by decide +kernel
theorem dX3_round_18 : decode cX3_round 18 = .ok (.ifCond .ne 9, 3) := by decide +kernel
theorem dX3_round_21 : decode cX3_round 21 = .ok (.aload_n 0, 1) := by decide +kernel
theorem dX3_round_22 : decode cX3_round 22 = .ok (.iconst 1, 1) := by decide +kernel
theorem dX3_round_23 : decode cX3_round 23 = .ok (.invokevirtual 66, 3) := by decide +kernel
theorem dX3_round_26 : decode cX3_round 26 = .ok (.ireturn, 1) := by decide +kernel
theorem dX3_round_27 : decode cX3_round 27 = .ok (.aload_n 0, 1) := by decide +kernel
theorem dX3_round_28 : decode cX3_round 28 = .ok (.iload_n 1, 1) := by decide +kernel
theorem dX3_round_29 : decode cX3_round 29 = .ok (.iconst 4, 1) := by decide +kernel
theorem dX3_round_30 : decode cX3_round 30 = .ok (.invokevirtual 99, 3) := by decide +kernel
theorem dX3_round_33 : decode cX3_round 33 = .ok (.istore_n 3, 1) := by decide +kernel
theorem dX3_round_34 : decode cX3_round 34 = .ok (.iconst 0, 1) := by decide +kernel
theorem dX3_round_35 : decode cX3_round 35 = .ok (.istore 4, 2) := by decide +kernel
theorem dX3_round_37 : decode cX3_round 37 = .ok (.iconst 0, 1) := by decide +kernel
theorem dX3_round_38 : decode cX3_round 38 = .ok (.istore 5, 2) := by decide +kernel
theorem dX3_round_40 : decode cX3_round 40 = .ok (.iload 5, 2) := by decide +kernel
theorem dX3_round_42 : decode cX3_round 42 = .ok (.iload_n 3, 1) := by decide +kernel
theorem dX3_round_43 : decode cX3_round 43 = .ok (.if_icmp .ge 35, 3) := by decide +kernel
theorem dX3_round_46 : decode cX3_round 46 = .ok (.iload 4, 2) := by decide +kernel
theorem dX3_round_48 : decode cX3_round 48 = .ok (.aload_n 0, 1) := by decide +kernel
theorem dX3_round_49 : decode cX3_round 49 = .ok (.getfield 25, 3) := by decide +kernel
theorem dX3_round_52 : decode cX3_round 52 = .ok (.bipush 10, 2) := by decide +kernel
theorem dX3_round_54 : decode cX3_round 54 = .ok (.iload_n 1, 1) := by decide +kernel
theorem dX3_round_55 : decode cX3_round 55 = .ok (.imul, 1) := by decide +kernel
theorem dX3_round_56 : decode cX3_round 56 = .ok (.iload 5, 2) := by decide +kernel
theorem dX3_round_58 : decode cX3_round 58 = .ok (.iadd, 1) := by decide +kernel
theorem dX3_round_59 : decode cX3_round 59 = .ok (.iaload, 1) := by decide +kernel
theorem dX3_round_60 : decode cX3_round 60 = .ok (.iload_n 2, 1) := by decide +kernel
theorem dX3_round_61 : decode cX3_round 61 = .ok (.if_icmp .ne 7, 3) := by decide +kernel
theorem dX3_round_64 : decode cX3_round 64 = .ok (.iconst 1, 1) := by decide +kernel
theorem dX3_round_65 : decode cX3_round 65 = .ok (.goto 4, 3) := by decide +kernel
theorem dX3_round_68 : decode cX3_round 68 = .ok (.iconst 0, 1) := by decide +kernel
theorem dX3_round_69 : decode cX3_round 69 = .ok (.ior, 1) := by decide +kernel
theorem dX3_round_70 : decode cX3_round 70 = .ok (.istore 4, 2) := by decide +kernel
theorem dX3_round_72 : decode cX3_round 72 = .ok (.iinc 5 1, 3) := by decide +kernel
theorem dX3_round_75 : decode cX3_round 75 = .ok (.goto (-35), 3) := by decide +kernel
theorem dX3_round_78 : decode cX3_round 78 = .ok (.iload 4, 2) := by decide +kernel
theorem dX3_round_80 : decode cX3_round 80 = .ok (.ifCond .ne 9, 3) := by decide +kernel
theorem dX3_round_83 : decode cX3_round 83 = .ok (.iload_n 3, 1) := by decide +kernel
theorem dX3_round_84 : decode cX3_round 84 = .ok (.bipush 10, 2) := by decide +kernel
theorem dX3_round_86 : decode cX3_round 86 = .ok (.if_icmp .ne 9, 3) := by decide +kernel
theorem dX3_round_89 : decode cX3_round 89 = .ok (.aload_n 0, 1) := by decide +kernel
theorem dX3_round_90 : decode cX3_round 90 = .ok (.iconst 2, 1) := by decide +kernel
theorem dX3_round_91 : decode cX3_round 91 = .ok (.invokevirtual 66, 3) := by decide +kernel
theorem dX3_round_94 : decode cX3_round 94 = .ok (.ireturn, 1) := by decide +kernel
theorem dX3_round_95 : decode cX3_round 95 = .ok (.aload_n 0, 1) := by decide +kernel
theorem dX3_round_96 : decode cX3_round 96 = .ok (.getfield 25, 3) := by decide +kernel
theorem dX3_round_99 : decode cX3_round 99 = .ok (.bipush 10, 2) := by decide +kernel
theorem dX3_round_101 : decode cX3_round 101 = .ok (.iload_n 1, 1) := by decide +kernel
theorem dX3_round_102 : decode cX3_round 102 = .ok (.imul, 1) := by decide +kernel
theorem dX3_round_103 : decode cX3_round 103 = .ok (.iload_n 3, 1) := by decide +kernel
theorem dX3_round_104 : decode cX3_round 104 = .ok (.iadd, 1) := by decide +kernel
theorem dX3_round_105 : decode cX3_round 105 = .ok (.iload_n 2, 1) := by decide +kernel
theorem dX3_round_106 : decode cX3_round 106 = .ok (.iastore, 1) := by decide +kernel
theorem dX3_round_107 : decode cX3_round 107 = .ok (.aload_n 0, 1) := by decide +kernel
theorem dX3_round_108 : decode cX3_round 108 = .ok (.iload_n 1, 1) := by decide +kernel
theorem dX3_round_109 : decode cX3_round 109 = .ok (.iconst 4, 1) := by decide +kernel
theorem dX3_round_110 : decode cX3_round 110 = .ok (.iload_n 3, 1) := by decide +kernel
theorem dX3_round_111 : decode cX3_round 111 = .ok (.iconst 1, 1) := by decide +kernel
theorem dX3_round_112 : decode cX3_round 112 = .ok (.iadd, 1) := by decide +kernel
theorem dX3_round_113 : decode cX3_round 113 = .ok (.invokevirtual 102, 3) := by decide +kernel
theorem dX3_round_116 : decode cX3_round 116 = .ok (.iload_n 3, 1) := by decide +kernel
theorem dX3_round_117 : decode cX3_round 117 = .ok (.iconst 1, 1) := by decide +kernel
theorem dX3_round_118 : decode cX3_round 118 = .ok (.iadd, 1) := by decide +kernel
theorem dX3_round_119 : decode cX3_round 119 = .ok (.ireturn, 1) := by decide +kernel
set_option maxRecDepth 20000 in
theorem ggX3_fill_X3_isLighter : GoodIn wsX3_fill wsX3_isLighter := goodIn_r _ [10, 11, 12, 13, 9, 14, 28, 29, 30, 31, 32, 33, 34, 35, 36, 37, 38, 39, 40] (by decide +kernel) (by decide +kernel)
set_option maxRecDepth 20000 in
theorem gX3_fill_X3_isLighter : GoodIn wsX3_fill (wsV RX3 96 RX3 yX3_isLighter wsX3_isLighter) := goodIn_app (goodIn_of _ (by decide +kernel)) ggX3_fill_X3_isLighter
set_option maxRecDepth 20000 in
theorem ggX3_fill_X3_fail : GoodIn wsX3_fill wsX3_fail := goodIn_r _ [18, 1, 28, 29, 30, 31, 32, 33, 34, 35, 36, 37, 38, 39, 40] (by decide +kernel) (by decide +kernel)
set_option maxRecDepth 20000 in
theorem gX3_fill_X3_fail : GoodIn wsX3_fill (wsV RX3 66 RX3 yX3_fail wsX3_fail) := goodIn_app (goodIn_of _ (by decide +kernel)) ggX3_fill_X3_fail
set_option maxRecDepth 20000 in
theorem ggX3_fill_X3_isIn : GoodIn wsX3_fill wsX3_isIn := goodIn_r _ [14] (by decide +kernel) (by decide +kernel)
set_option maxRecDepth 20000 in
theorem gX3_fill_X3_isIn : GoodIn wsX3_fill (va_wsS RX3 41 yX3_isIn wsX3_isIn) := goodIn_app (goodIn_of _ (by decide +kernel)) ggX3_fill_X3_isIn
set_option maxRecDepth 20000 in
theorem ggX3_fill_X3_pe : GoodIn wsX3_fill wsX3_pe := goodIn_r _ [22, 23, 28, 29, 30, 31, 32, 33, 34, 35, 36, 37, 38, 39, 40] (by decide +kernel) (by decide +kernel)
set_option maxRecDepth 20000 in
theorem gX3_fill_X3_pe : GoodIn wsX3_fill (wsV RX3 99 RX3 yX3_pe wsX3_pe) := goodIn_app (goodIn_of _ (by decide +kernel)) ggX3_fill_X3_pe
set_option maxRecDepth 20000 in
theorem ggX3_fill_X3_put : GoodIn wsX3_fill wsX3_put := goodIn_r _ [27, 23, 28, 29, 30, 31, 32, 33, 34, 35, 36, 37, 38, 39, 40] (by decide +kernel) (by decide +kernel)
set_option maxRecDepth 20000 in
theorem gX3_fill_X3_put : GoodIn wsX3_fill (wsV RX3 102 RX3 yX3_put wsX3_put) := goodIn_app (goodIn_of _ (by decide +kernel)) ggX3_fill_X3_put
theorem dX3_fill_0 : decode cX3_fill 0 = .ok (.aload_n 0, 1) := by decide +kernel
theorem dX3_fill_1 : decode cX3_fill 1 = .ok (.iconst 0, 1) := by decide +kernel
theorem dX3_fill_2 : decode cX3_fill 2 = .ok (.putfield 34, 3) := by decide +kernel
theorem dX3_fill_5 : decode cX3_fill 5 = .ok (.aload_n 0, 1) := by decide +kernel
theorem dX3_fill_6 : decode cX3_fill 6 = .ok (.iload_n 1, 1) := by decide +kernel
theorem dX3_fill_7 : decode cX3_fill 7 = .ok (.invokevirtual 96, 3) := by decide +kernel
theorem dX3_fill_10 : decode cX3_fill 10 = .ok (.ifCond .ne 9, 3) := by decide +kernel
theorem dX3_fill_13 : decode cX3_fill 13 = .ok (.aload_n 0, 1) := by decide +kernel
theorem dX3_fill_14 : decode cX3_fill 14 = .ok (.iconst 1, 1) := by decide +kernel
theorem dX3_fill_15 : decode cX3_fill 15 = .ok (.invokevirtual 66, 3) := by decide +kernel
theorem dX3_fill_18 : decode cX3_fill 18 = .ok (.ireturn, 1) := by decide +kernel
theorem dX3_fill_19 : decode cX3_fill 19 = .ok (.iload_n 2, 1) := by decide +kernel
theorem dX3_fill_20 : decode cX3_fill 20 = .ok (.iconst 1, 1) := by decide +kernel
theorem dX3_fill_21 : decode cX3_fill 21 = .ok (.sipush 999, 3) := by decide +kernel
theorem dX3_fill_24 : decode cX3_fill 24 = .ok (.invokestatic 41, 3) := by decide +kernel
theorem dX3_fill_27 : decode cX3_fill 27 = .ok (.ifCond .ne 9, 3) := by decide +kernel
theorem dX3_fill_30 : decode cX3_fill 30 = .ok (.aload_n 0, 1) := by decide +kernel
theorem dX3_fill_31 : decode cX3_fill 31 = .ok (.iconst 2, 1) := by decide +kernel
theorem dX3_fill_32 : decode cX3_fill 32 = .ok (.invokevirtual 66, 3) := by decide +kernel
theorem dX3_fill_35 : decode cX3_fill 35 = .ok (.ireturn, 1) := by decide +kernel
theorem dX3_fill_36 : decode cX3_fill 36 = .ok (.aload_n 0, 1) := by decide +kernel
theorem dX3_fill_37 : decode cX3_fill 37 = .ok (.iload_n 1, 1) := by decide +kernel
theorem dX3_fill_38 : decode cX3_fill 38 = .ok (.iconst 3, 1) := by decide +kernel
theorem dX3_fill_39 : decode cX3_fill 39 = .ok (.sipush 999, 3) := by decide +kernel
theorem dX3_fill_42 : decode cX3_fill 42 = .ok (.aload_n 0, 1) := by decide +kernel
theorem dX3_fill_43 : decode cX3_fill 43 = .ok (.iload_n 1, 1) := by decide +kernel
theorem dX3_fill_44 : decode cX3_fill 44 = .ok (.iconst 3, 1) := by decide +kernel
theorem dX3_fill_45 : decode cX3_fill 45 = .ok (.invokevirtual 99, 3) := by decide +kernel
theorem dX3_fill_48 : decode cX3_fill 48 = .ok (.iload_n 2, 1) := by decide +kernel
theorem dX3_fill_49 : decode cX3_fill 49 = .ok (.iadd, 1) := by decide +kernel
theorem dX3_fill_50 : decode cX3_fill 50 = .ok (.invokestatic 63, 3) := by decide +kernel
theorem dX3_fill_53 : decode cX3_fill 53 = .ok (.invokevirtual 102, 3) := by decide +kernel
theorem dX3_fill_56 : decode cX3_fill 56 = .ok (.aload_n 0, 1) := by decide +kernel
theorem dX3_fill_57 : decode cX3_fill 57 = .ok (.iload_n 1, 1) := by decide +kernel
theorem dX3_fill_58 : decode cX3_fill 58 = .ok (.iconst 3, 1) := by decide +kernel
theorem dX3_fill_59 : decode cX3_fill 59 = .ok (.invokevirtual 99, 3) := by decide +kernel
theorem dX3_fill_62 : decode cX3_fill 62 = .ok (.ireturn, 1) := by decide +kernel
theorem dX3_away_0 : decode cX3_away 0 = .ok (.sipush 9999, 3) := by decide +kernel
theorem dX3_away_3 : decode cX3_away 3 = .ok (.aload_n 0, 1) := by decide +kernel
theorem dX3_away_4 : decode cX3_away 4 = .ok (.getfield 16, 3) := by decide +kernel
theorem dX3_away_7 : decode cX3_away 7 = .ok (.bipush 12, 2) := by decide +kernel
theorem dX3_away_9 : decode cX3_away 9 = .ok (.iload_n 1, 1) := by decide +kernel
theorem dX3_away_10 : decode cX3_away 10 = .ok (.imul, 1) := by decide +kernel
theorem dX3_away_11 : decode cX3_away 11 = .ok (.iload_n 2, 1) := by decide +kernel
theorem dX3_away_12 : decode cX3_away 12 = .ok (.iadd, 1) := by decide +kernel
theorem dX3_away_13 : decode cX3_away 13 = .ok (.iaload, 1) := by decide +kernel
theorem dX3_away_14 : decode cX3_away 14 = .ok (.invokestatic 63, 3) := by decide +kernel
theorem dX3_away_17 : decode cX3_away 17 = .ok (.ireturn, 1) := by decide +kernel
set_option maxRecDepth 20000 in
theorem ggX3_way_X3_isCorner : GoodIn wsX3_way wsX3_isCorner := goodIn_r _ [6, 7, 8, 9, 5, 10, 24, 25, 26, 27, 28, 29, 30, 31, 32, 33, 34, 35, 36] (by decide +kernel) (by decide +kernel)
set_option maxRecDepth 20000 in
theorem gX3_way_X3_isCorner : GoodIn wsX3_way (wsV RX3 73 RX3 yX3_isCorner wsX3_isCorner) := goodIn_app (goodIn_of _ (by decide +kernel)) ggX3_way_X3_isCorner
set_option maxRecDepth 20000 in
theorem ggX3_way_X3_fail : GoodIn wsX3_way wsX3_fail := goodIn_r _ [14, 1, 24, 25, 26, 27, 28, 29, 30, 31, 32, 33, 34, 35, 36] (by decide +kernel) (by decide +kernel)
set_option maxRecDepth 20000 in
theorem gX3_way_X3_fail : GoodIn wsX3_way (wsV RX3 66 RX3 yX3_fail wsX3_fail) := goodIn_app (goodIn_of _ (by decide +kernel)) ggX3_way_X3_fail
set_option maxRecDepth 20000 in
theorem ggX3_way_X3_away : GoodIn wsX3_way wsX3_away := goodIn_r _ [18, 19, 20, 21, 22, 23, 24, 25, 26, 27, 28, 29, 30, 31, 32, 33, 34, 35, 36] (by decide +kernel) (by decide +kernel)
set_option maxRecDepth 20000 in
theorem gX3_way_X3_away : GoodIn wsX3_way (wsV RX3 105 RX3 yX3_away wsX3_away) := goodIn_app (goodIn_of _ (by decide +kernel)) ggX3_way_X3_away
theorem dX3_way_0 : decode cX3_way 0 = .ok (.aload_n 0, 1) := by decide +kernel
theorem dX3_way_1 : decode cX3_way 1 = .ok (.iconst 0, 1) := by decide +kernel
theorem dX3_way_2 : decode cX3_way 2 = .ok (.putfield 34, 3) := by decide +kernel
theorem dX3_way_5 : decode cX3_way 5 = .ok (.aload_n 0, 1) := by decide +kernel
theorem dX3_way_6 : decode cX3_way 6 = .ok (.iload_n 1, 1) := by decide +kernel
theorem dX3_way_7 : decode cX3_way 7 = .ok (.invokevirtual 73, 3) := by decide +kernel
theorem dX3_way_10 : decode cX3_way 10 = .ok (.ifCond .eq 11, 3) := by decide +kernel
theorem dX3_way_13 : decode cX3_way 13 = .ok (.aload_n 0, 1) := by decide +kernel
theorem dX3_way_14 : decode cX3_way 14 = .ok (.iload_n 2, 1) := by decide +kernel
theorem dX3_way_15 : decode cX3_way 15 = .ok (.invokevirtual 73, 3) := by decide +kernel
theorem dX3_way_18 : decode cX3_way 18 = .ok (.ifCond .ne 9, 3) := by decide +kernel
theorem dX3_way_21 : decode cX3_way 21 = .ok (.aload_n 0, 1) := by decide +kernel
theorem dX3_way_22 : decode cX3_way 22 = .ok (.iconst 1, 1) := by decide +kernel
theorem dX3_way_23 : decode cX3_way 23 = .ok (.invokevirtual 66, 3) := by decide +kernel
theorem dX3_way_26 : decode cX3_way 26 = .ok (.ireturn, 1) := by decide +kernel
theorem dX3_way_27 : decode cX3_way 27 = .ok (.aload_n 0, 1) := by decide +kernel
theorem dX3_way_28 : decode cX3_way 28 = .ok (.iload_n 1, 1) := by decide +kernel
theorem dX3_way_29 : decode cX3_way 29 = .ok (.iload_n 2, 1) := by decide +kernel
theorem dX3_way_30 : decode cX3_way 30 = .ok (.invokevirtual 105, 3) := by decide +kernel
theorem dX3_way_33 : decode cX3_way 33 = .ok (.sipush 9999, 3) := by decide +kernel
theorem dX3_way_36 : decode cX3_way 36 = .ok (.if_icmp .ne 7, 3) := by decide +kernel
theorem dX3_way_39 : decode cX3_way 39 = .ok (.iconst (-1), 1) := by decide +kernel
theorem dX3_way_40 : decode cX3_way 40 = .ok (.goto 9, 3) := by decide +kernel
theorem dX3_way_43 : decode cX3_way 43 = .ok (.aload_n 0, 1) := by decide +kernel
theorem dX3_way_44 : decode cX3_way 44 = .ok (.iload_n 1, 1) := by decide +kernel
theorem dX3_way_45 : decode cX3_way 45 = .ok (.iload_n 2, 1) := by decide +kernel
theorem dX3_way_46 : decode cX3_way 46 = .ok (.invokevirtual 105, 3) := by decide +kernel
theorem dX3_way_49 : decode cX3_way 49 = .ok (.ireturn, 1) := by decide +kernel
set_option maxRecDepth 20000 in
theorem ggX3_goer_X3_pe : GoodIn wsX3_goer wsX3_pe := goodIn_r _ [6, 7, 8, 9, 10, 11, 12, 13, 14, 15, 16, 17, 18, 19, 20] (by decide +kernel) (by decide +kernel)
set_option maxRecDepth 20000 in
theorem gX3_goer_X3_pe : GoodIn wsX3_goer (wsV RX3 99 RX3 yX3_pe wsX3_pe) := goodIn_app (goodIn_of _ (by decide +kernel)) ggX3_goer_X3_pe
theorem dX3_goer_0 : decode cX3_goer 0 = .ok (.iconst 0, 1) := by decide +kernel
theorem dX3_goer_1 : decode cX3_goer 1 = .ok (.istore_n 2, 1) := by decide +kernel
theorem dX3_goer_2 : decode cX3_goer 2 = .ok (.iload_n 2, 1) := by decide +kernel
theorem dX3_goer_3 : decode cX3_goer 3 = .ok (.aload_n 0, 1) := by decide +kernel
theorem dX3_goer_4 : decode cX3_goer 4 = .ok (.getfield 51, 3) := by decide +kernel
theorem dX3_goer_7 : decode cX3_goer 7 = .ok (.if_icmp .ge 21, 3) := by decide +kernel
theorem dX3_goer_10 : decode cX3_goer 10 = .ok (.aload_n 0, 1) := by decide +kernel
theorem dX3_goer_11 : decode cX3_goer 11 = .ok (.iload_n 2, 1) := by decide +kernel
theorem dX3_goer_12 : decode cX3_goer 12 = .ok (.iconst 5, 1) := by decide +kernel
theorem dX3_goer_13 : decode cX3_goer 13 = .ok (.invokevirtual 99, 3) := by decide +kernel
theorem dX3_goer_16 : decode cX3_goer 16 = .ok (.iload_n 1, 1) := by decide +kernel
theorem dX3_goer_17 : decode cX3_goer 17 = .ok (.if_icmp .ne 5, 3) := by decide +kernel
theorem dX3_goer_20 : decode cX3_goer 20 = .ok (.iload_n 2, 1) := by decide +kernel
theorem dX3_goer_21 : decode cX3_goer 21 = .ok (.ireturn, 1) := by decide +kernel
theorem dX3_goer_22 : decode cX3_goer 22 = .ok (.iinc 2 1, 3) := by decide +kernel
theorem dX3_goer_25 : decode cX3_goer 25 = .ok (.goto (-23), 3) := by decide +kernel
theorem dX3_goer_28 : decode cX3_goer 28 = .ok (.iconst (-1), 1) := by decide +kernel
theorem dX3_goer_29 : decode cX3_goer 29 = .ok (.ireturn, 1) := by decide +kernel
set_option maxRecDepth 20000 in
theorem ggX3_lampTold_X3_la : GoodIn wsX3_lampTold wsX3_la := goodIn_r _ [5, 6, 17, 18, 19, 20, 21, 22, 23, 24, 25, 26, 27, 28, 29] (by decide +kernel) (by decide +kernel)
set_option maxRecDepth 20000 in
theorem gX3_lampTold_X3_la : GoodIn wsX3_lampTold (wsV RX3 89 RX3 yX3_la wsX3_la) := goodIn_app (goodIn_of _ (by decide +kernel)) ggX3_lampTold_X3_la
set_option maxRecDepth 20000 in
theorem ggX3_lampTold_X3_goer : GoodIn wsX3_lampTold wsX3_goer := goodIn_r _ [10, 11, 12, 13, 14, 4, 15, 16, 17, 18, 19, 20, 21, 22, 23, 24, 25, 26, 27, 28, 29] (by decide +kernel) (by decide +kernel)
set_option maxRecDepth 20000 in
theorem gX3_lampTold_X3_goer : GoodIn wsX3_lampTold (wsV RX3 108 RX3 yX3_goer wsX3_goer) := goodIn_app (goodIn_of _ (by decide +kernel)) ggX3_lampTold_X3_goer
theorem dX3_lampTold_0 : decode cX3_lampTold 0 = .ok (.iload_n 2, 1) := by decide +kernel
theorem dX3_lampTold_1 : decode cX3_lampTold 1 = .ok (.bipush 6, 2) := by decide +kernel
theorem dX3_lampTold_3 : decode cX3_lampTold 3 = .ok (.if_icmp .ge 12, 3) := by decide +kernel
theorem dX3_lampTold_6 : decode cX3_lampTold 6 = .ok (.aload_n 0, 1) := by decide +kernel
theorem dX3_lampTold_7 : decode cX3_lampTold 7 = .ok (.iload_n 1, 1) := by decide +kernel
theorem dX3_lampTold_8 : decode cX3_lampTold 8 = .ok (.iload_n 2, 1) := by decide +kernel
theorem dX3_lampTold_9 : decode cX3_lampTold 9 = .ok (.invokevirtual 89, 3) := by decide +kernel
theorem dX3_lampTold_12 : decode cX3_lampTold 12 = .ok (.goto 25, 3) := by decide +kernel
theorem dX3_lampTold_15 : decode cX3_lampTold 15 = .ok (.iload_n 2, 1) := by decide +kernel
theorem dX3_lampTold_16 : decode cX3_lampTold 16 = .ok (.bipush 6, 2) := by decide +kernel
theorem dX3_lampTold_18 : decode cX3_lampTold 18 = .ok (.if_icmp .ne 11, 3) := by decide +kernel
theorem dX3_lampTold_21 : decode cX3_lampTold 21 = .ok (.aload_n 0, 1) := by decide +kernel
theorem dX3_lampTold_22 : decode cX3_lampTold 22 = .ok (.iload_n 1, 1) := by decide +kernel
theorem dX3_lampTold_23 : decode cX3_lampTold 23 = .ok (.invokevirtual 108, 3) := by decide +kernel
theorem dX3_lampTold_26 : decode cX3_lampTold 26 = .ok (.goto 11, 3) := by decide +kernel
theorem dX3_lampTold_29 : decode cX3_lampTold 29 = .ok (.aload_n 0, 1) := by decide +kernel
theorem dX3_lampTold_30 : decode cX3_lampTold 30 = .ok (.iload_n 1, 1) := by decide +kernel
theorem dX3_lampTold_31 : decode cX3_lampTold 31 = .ok (.iload_n 2, 1) := by decide +kernel
theorem dX3_lampTold_32 : decode cX3_lampTold 32 = .ok (.iconst 1, 1) := by decide +kernel
theorem dX3_lampTold_33 : decode cX3_lampTold 33 = .ok (.isub, 1) := by decide +kernel
theorem dX3_lampTold_34 : decode cX3_lampTold 34 = .ok (.invokevirtual 89, 3) := by decide +kernel
theorem dX3_lampTold_37 : decode cX3_lampTold 37 = .ok (.ireturn, 1) := by decide +kernel
set_option maxRecDepth 20000 in
theorem ggX3_told_X3_isLamp : GoodIn wsX3_told wsX3_isLamp := goodIn_r _ [6, 7, 8, 9, 5, 10, 34, 35, 36, 37, 38, 39, 40, 41, 42, 43, 44, 45, 46] (by decide +kernel) (by decide +kernel)
set_option maxRecDepth 20000 in
theorem gX3_told_X3_isLamp : GoodIn wsX3_told (wsV RX3 86 RX3 yX3_isLamp wsX3_isLamp) := goodIn_app (goodIn_of _ (by decide +kernel)) ggX3_told_X3_isLamp
set_option maxRecDepth 20000 in
theorem ggX3_told_X3_isIn : GoodIn wsX3_told wsX3_isIn := goodIn_r _ [10] (by decide +kernel) (by decide +kernel)
set_option maxRecDepth 20000 in
theorem gX3_told_X3_isIn : GoodIn wsX3_told (va_wsS RX3 41 yX3_isIn wsX3_isIn) := goodIn_app (goodIn_of _ (by decide +kernel)) ggX3_told_X3_isIn
set_option maxRecDepth 20000 in
theorem ggX3_told_X3_lampTold : GoodIn wsX3_told wsX3_lampTold := goodIn_r _ [14, 15, 16, 17, 5, 18, 19, 20, 21, 22, 23, 24, 25, 26, 27, 28, 29, 34, 35, 36, 37, 38, 39, 40, 41, 42, 43, 44, 45, 46] (by decide +kernel) (by decide +kernel)
set_option maxRecDepth 20000 in
theorem gX3_told_X3_lampTold : GoodIn wsX3_told (wsV RX3 111 RX3 yX3_lampTold wsX3_lampTold) := goodIn_app (goodIn_of _ (by decide +kernel)) ggX3_told_X3_lampTold
set_option maxRecDepth 20000 in
theorem ggX3_told_X3_fail : GoodIn wsX3_told wsX3_fail := goodIn_r _ [33, 1, 34, 35, 36, 37, 38, 39, 40, 41, 42, 43, 44, 45, 46] (by decide +kernel) (by decide +kernel)
set_option maxRecDepth 20000 in
theorem gX3_told_X3_fail : GoodIn wsX3_told (wsV RX3 66 RX3 yX3_fail wsX3_fail) := goodIn_app (goodIn_of _ (by decide +kernel)) ggX3_told_X3_fail
theorem dX3_told_0 : decode cX3_told 0 = .ok (.aload_n 0, 1) := by decide +kernel
theorem dX3_told_1 : decode cX3_told 1 = .ok (.iconst 0, 1) := by decide +kernel
theorem dX3_told_2 : decode cX3_told 2 = .ok (.putfield 34, 3) := by decide +kernel
theorem dX3_told_5 : decode cX3_told 5 = .ok (.aload_n 0, 1) := by decide +kernel
theorem dX3_told_6 : decode cX3_told 6 = .ok (.iload_n 1, 1) := by decide +kernel
theorem dX3_told_7 : decode cX3_told 7 = .ok (.invokevirtual 86, 3) := by decide +kernel
theorem dX3_told_10 : decode cX3_told 10 = .ok (.ifCond .eq 22, 3) := by decide +kernel
theorem dX3_told_13 : decode cX3_told 13 = .ok (.iload_n 2, 1) := by decide +kernel
theorem dX3_told_14 : decode cX3_told 14 = .ok (.iconst 0, 1) := by decide +kernel
theorem dX3_told_15 : decode cX3_told 15 = .ok (.bipush 8, 2) := by decide +kernel
theorem dX3_told_17 : decode cX3_told 17 = .ok (.invokestatic 41, 3) := by decide +kernel
theorem dX3_told_20 : decode cX3_told 20 = .ok (.ifCond .eq 12, 3) := by decide +kernel
theorem dX3_told_23 : decode cX3_told 23 = .ok (.aload_n 0, 1) := by decide +kernel
theorem dX3_told_24 : decode cX3_told 24 = .ok (.iload_n 1, 1) := by decide +kernel
theorem dX3_told_25 : decode cX3_told 25 = .ok (.iload_n 2, 1) := by decide +kernel
theorem dX3_told_26 : decode cX3_told 26 = .ok (.invokevirtual 111, 3) := by decide +kernel
theorem dX3_told_29 : decode cX3_told 29 = .ok (.goto 8, 3) := by decide +kernel
theorem dX3_told_32 : decode cX3_told 32 = .ok (.aload_n 0, 1) := by decide +kernel
theorem dX3_told_33 : decode cX3_told 33 = .ok (.iconst 1, 1) := by decide +kernel
theorem dX3_told_34 : decode cX3_told 34 = .ok (.invokevirtual 66, 3) := by decide +kernel
theorem dX3_told_37 : decode cX3_told 37 = .ok (.ireturn, 1) := by decide +kernel
set_option maxRecDepth 20000 in
theorem ggX3_lighterTold_X3_pe : GoodIn wsX3_lighterTold wsX3_pe := goodIn_r _ [6, 7, 8, 9, 10, 11, 12, 13, 14, 15, 16, 17, 18, 19, 20] (by decide +kernel) (by decide +kernel)
set_option maxRecDepth 20000 in
theorem gX3_lighterTold_X3_pe : GoodIn wsX3_lighterTold (wsV RX3 99 RX3 yX3_pe wsX3_pe) := goodIn_app (goodIn_of _ (by decide +kernel)) ggX3_lighterTold_X3_pe
theorem dX3_lighterTold_0 : decode cX3_lighterTold 0 = .ok (.bipush 7, 2) := by decide +kernel
theorem dX3_lighterTold_2 : decode cX3_lighterTold 2 = .ok (.newarray .int, 2) := by decide +kernel
theorem dX3_lighterTold_4 : decode cX3_lighterTold 4 = .ok (.dup, 1) := by decide +kernel
theorem dX3_lighterTold_5 : decode cX3_lighterTold 5 = .ok (.iconst 0, 1) := by decide +kernel
theorem dX3_lighterTold_6 : decode cX3_lighterTold 6 = .ok (.aload_n 0, 1) := by decide +kernel
theorem dX3_lighterTold_7 : decode cX3_lighterTold 7 = .ok (.iload_n 1, 1) := by decide +kernel
theorem dX3_lighterTold_8 : decode cX3_lighterTold 8 = .ok (.iconst 1, 1) := by decide +kernel
theorem dX3_lighterTold_9 : decode cX3_lighterTold 9 = .ok (.invokevirtual 99, 3) := by decide +kernel
theorem dX3_lighterTold_12 : decode cX3_lighterTold 12 = .ok (.iastore, 1) := by decide +kernel
theorem dX3_lighterTold_13 : decode cX3_lighterTold 13 = .ok (.dup, 1) := by decide +kernel
theorem dX3_lighterTold_14 : decode cX3_lighterTold 14 = .ok (.iconst 1, 1) := by decide +kernel
theorem dX3_lighterTold_15 : decode cX3_lighterTold 15 = .ok (.aload_n 0, 1) := by decide +kernel
theorem dX3_lighterTold_16 : decode cX3_lighterTold 16 = .ok (.iload_n 1, 1) := by decide +kernel
theorem dX3_lighterTold_17 : decode cX3_lighterTold 17 = .ok (.iconst 2, 1) := by decide +kernel
theorem dX3_lighterTold_18 : decode cX3_lighterTold 18 = .ok (.invokevirtual 99, 3) := by decide +kernel
theorem dX3_lighterTold_21 : decode cX3_lighterTold 21 = .ok (.iastore, 1) := by decide +kernel
theorem dX3_lighterTold_22 : decode cX3_lighterTold 22 = .ok (.dup, 1) := by decide +kernel
theorem dX3_lighterTold_23 : decode cX3_lighterTold 23 = .ok (.iconst 2, 1) := by decide +kernel
theorem dX3_lighterTold_24 : decode cX3_lighterTold 24 = .ok (.aload_n 0, 1) := by decide +kernel
theorem dX3_lighterTold_25 : decode cX3_lighterTold 25 = .ok (.iload_n 1, 1) := by decide +kernel
theorem dX3_lighterTold_26 : decode cX3_lighterTold 26 = .ok (.iconst 3, 1) := by decide +kernel
theorem dX3_lighterTold_27 : decode cX3_lighterTold 27 = .ok (.invokevirtual 99, 3) := by decide +kernel
theorem dX3_lighterTold_30 : decode cX3_lighterTold 30 = .ok (.iastore, 1) := by decide +kernel
theorem dX3_lighterTold_31 : decode cX3_lighterTold 31 = .ok (.dup, 1) := by decide +kernel
theorem dX3_lighterTold_32 : decode cX3_lighterTold 32 = .ok (.iconst 3, 1) := by decide +kernel
theorem dX3_lighterTold_33 : decode cX3_lighterTold 33 = .ok (.aload_n 0, 1) := by decide +kernel
theorem dX3_lighterTold_34 : decode cX3_lighterTold 34 = .ok (.iload_n 1, 1) := by decide +kernel
theorem dX3_lighterTold_35 : decode cX3_lighterTold 35 = .ok (.iconst 4, 1) := by decide +kernel
theorem dX3_lighterTold_36 : decode cX3_lighterTold 36 = .ok (.invokevirtual 99, 3) := by decide +kernel
theorem dX3_lighterTold_39 : decode cX3_lighterTold 39 = .ok (.iastore, 1) := by decide +kernel
theorem dX3_lighterTold_40 : decode cX3_lighterTold 40 = .ok (.dup, 1) := by decide +kernel
theorem dX3_lighterTold_41 : decode cX3_lighterTold 41 = .ok (.iconst 4, 1) := by decide +kernel
theorem dX3_lighterTold_42 : decode cX3_lighterTold 42 = .ok (.aload_n 0, 1) := by decide +kernel
theorem dX3_lighterTold_43 : decode cX3_lighterTold 43 = .ok (.iload_n 1, 1) := by decide +kernel
theorem dX3_lighterTold_44 : decode cX3_lighterTold 44 = .ok (.iconst 5, 1) := by decide +kernel
theorem dX3_lighterTold_45 : decode cX3_lighterTold 45 = .ok (.invokevirtual 99, 3) := by decide +kernel
theorem dX3_lighterTold_48 : decode cX3_lighterTold 48 = .ok (.iastore, 1) := by decide +kernel
theorem dX3_lighterTold_49 : decode cX3_lighterTold 49 = .ok (.dup, 1) := by decide +kernel
theorem dX3_lighterTold_50 : decode cX3_lighterTold 50 = .ok (.iconst 5, 1) := by decide +kernel
theorem dX3_lighterTold_51 : decode cX3_lighterTold 51 = .ok (.aload_n 0, 1) := by decide +kernel
theorem dX3_lighterTold_52 : decode cX3_lighterTold 52 = .ok (.iload_n 1, 1) := by decide +kernel
theorem dX3_lighterTold_53 : decode cX3_lighterTold 53 = .ok (.bipush 6, 2) := by decide +kernel
theorem dX3_lighterTold_55 : decode cX3_lighterTold 55 = .ok (.invokevirtual 99, 3) := by decide +kernel
theorem dX3_lighterTold_58 : decode cX3_lighterTold 58 = .ok (.iastore, 1) := by decide +kernel
theorem dX3_lighterTold_59 : decode cX3_lighterTold 59 = .ok (.dup, 1) := by decide +kernel
theorem dX3_lighterTold_60 : decode cX3_lighterTold 60 = .ok (.bipush 6, 2) := by decide +kernel
theorem dX3_lighterTold_62 : decode cX3_lighterTold 62 = .ok (.aload_n 0, 1) := by decide +kernel
theorem dX3_lighterTold_63 : decode cX3_lighterTold 63 = .ok (.iload_n 1, 1) := by decide +kernel
theorem dX3_lighterTold_64 : decode cX3_lighterTold 64 = .ok (.bipush 9, 2) := by decide +kernel
theorem dX3_lighterTold_66 : decode cX3_lighterTold 66 = .ok (.invokevirtual 99, 3) := by decide +kernel
theorem dX3_lighterTold_69 : decode cX3_lighterTold 69 = .ok (.iastore, 1) := by decide +kernel
theorem dX3_lighterTold_70 : decode cX3_lighterTold 70 = .ok (.astore_n 3, 1) := by decide +kernel
theorem dX3_lighterTold_71 : decode cX3_lighterTold 71 = .ok (.aload_n 3, 1) := by decide +kernel
theorem dX3_lighterTold_72 : decode cX3_lighterTold 72 = .ok (.iload_n 2, 1) := by decide +kernel
theorem dX3_lighterTold_73 : decode cX3_lighterTold 73 = .ok (.iaload, 1) := by decide +kernel
theorem dX3_lighterTold_74 : decode cX3_lighterTold 74 = .ok (.ireturn, 1) := by decide +kernel
set_option maxRecDepth 20000 in
theorem ggX3_lighter_X3_isLighter : GoodIn wsX3_lighter wsX3_isLighter := goodIn_r _ [6, 7, 8, 9, 5, 10, 25, 26, 27, 28, 29, 30, 31, 32, 33, 34, 35, 36, 37] (by decide +kernel) (by decide +kernel)
set_option maxRecDepth 20000 in
theorem gX3_lighter_X3_isLighter : GoodIn wsX3_lighter (wsV RX3 96 RX3 yX3_isLighter wsX3_isLighter) := goodIn_app (goodIn_of _ (by decide +kernel)) ggX3_lighter_X3_isLighter
set_option maxRecDepth 20000 in
theorem ggX3_lighter_X3_isIn : GoodIn wsX3_lighter wsX3_isIn := goodIn_r _ [10] (by decide +kernel) (by decide +kernel)
set_option maxRecDepth 20000 in
theorem gX3_lighter_X3_isIn : GoodIn wsX3_lighter (va_wsS RX3 41 yX3_isIn wsX3_isIn) := goodIn_app (goodIn_of _ (by decide +kernel)) ggX3_lighter_X3_isIn
set_option maxRecDepth 20000 in
theorem ggX3_lighter_X3_lighterTold : GoodIn wsX3_lighter wsX3_lighterTold := goodIn_r _ [14, 15, 16, 17, 18, 5, 19, 20, 25, 26, 27, 28, 29, 30, 31, 32, 33, 34, 35, 36, 37] (by decide +kernel) (by decide +kernel)
set_option maxRecDepth 20000 in
theorem gX3_lighter_X3_lighterTold : GoodIn wsX3_lighter (wsV RX3 114 RX3 yX3_lighterTold wsX3_lighterTold) := goodIn_app (goodIn_of _ (by decide +kernel)) ggX3_lighter_X3_lighterTold
set_option maxRecDepth 20000 in
theorem ggX3_lighter_X3_fail : GoodIn wsX3_lighter wsX3_fail := goodIn_r _ [24, 1, 25, 26, 27, 28, 29, 30, 31, 32, 33, 34, 35, 36, 37] (by decide +kernel) (by decide +kernel)
set_option maxRecDepth 20000 in
theorem gX3_lighter_X3_fail : GoodIn wsX3_lighter (wsV RX3 66 RX3 yX3_fail wsX3_fail) := goodIn_app (goodIn_of _ (by decide +kernel)) ggX3_lighter_X3_fail
theorem dX3_lighter_0 : decode cX3_lighter 0 = .ok (.aload_n 0, 1) := by decide +kernel
theorem dX3_lighter_1 : decode cX3_lighter 1 = .ok (.iconst 0, 1) := by decide +kernel
theorem dX3_lighter_2 : decode cX3_lighter 2 = .ok (.putfield 34, 3) := by decide +kernel
theorem dX3_lighter_5 : decode cX3_lighter 5 = .ok (.aload_n 0, 1) := by decide +kernel
theorem dX3_lighter_6 : decode cX3_lighter 6 = .ok (.iload_n 1, 1) := by decide +kernel
theorem dX3_lighter_7 : decode cX3_lighter 7 = .ok (.invokevirtual 96, 3) := by decide +kernel
theorem dX3_lighter_10 : decode cX3_lighter 10 = .ok (.ifCond .eq 22, 3) := by decide +kernel
theorem dX3_lighter_13 : decode cX3_lighter 13 = .ok (.iload_n 2, 1) := by decide +kernel
theorem dX3_lighter_14 : decode cX3_lighter 14 = .ok (.iconst 0, 1) := by decide +kernel
theorem dX3_lighter_15 : decode cX3_lighter 15 = .ok (.bipush 6, 2) := by decide +kernel
theorem dX3_lighter_17 : decode cX3_lighter 17 = .ok (.invokestatic 41, 3) := by decide +kernel
theorem dX3_lighter_20 : decode cX3_lighter 20 = .ok (.ifCond .eq 12, 3) := by decide +kernel
theorem dX3_lighter_23 : decode cX3_lighter 23 = .ok (.aload_n 0, 1) := by decide +kernel
theorem dX3_lighter_24 : decode cX3_lighter 24 = .ok (.iload_n 1, 1) := by decide +kernel
theorem dX3_lighter_25 : decode cX3_lighter 25 = .ok (.iload_n 2, 1) := by decide +kernel
theorem dX3_lighter_26 : decode cX3_lighter 26 = .ok (.invokevirtual 114, 3) := by decide +kernel
theorem dX3_lighter_29 : decode cX3_lighter 29 = .ok (.goto 8, 3) := by decide +kernel
theorem dX3_lighter_32 : decode cX3_lighter 32 = .ok (.aload_n 0, 1) := by decide +kernel
theorem dX3_lighter_33 : decode cX3_lighter 33 = .ok (.iconst 1, 1) := by decide +kernel
theorem dX3_lighter_34 : decode cX3_lighter 34 = .ok (.invokevirtual 66, 3) := by decide +kernel
theorem dX3_lighter_37 : decode cX3_lighter 37 = .ok (.ireturn, 1) := by decide +kernel
set_option maxRecDepth 20000 in
theorem ggX3_burns_X3_la : GoodIn wsX3_burns wsX3_la := goodIn_r _ [6, 7, 8, 9, 10, 11, 12, 13, 14, 15, 16, 17, 18, 19, 20] (by decide +kernel) (by decide +kernel)
set_option maxRecDepth 20000 in
theorem gX3_burns_X3_la : GoodIn wsX3_burns (wsV RX3 89 RX3 yX3_la wsX3_la) := goodIn_app (goodIn_of _ (by decide +kernel)) ggX3_burns_X3_la
theorem dX3_burns_0 : decode cX3_burns 0 = .ok (.iconst 0, 1) := by decide +kernel
theorem dX3_burns_1 : decode cX3_burns 1 = .ok (.istore_n 2, 1) := by decide +kernel
theorem dX3_burns_2 : decode cX3_burns 2 = .ok (.iconst 0, 1) := by decide +kernel
theorem dX3_burns_3 : decode cX3_burns 3 = .ok (.istore_n 3, 1) := by decide +kernel
theorem dX3_burns_4 : decode cX3_burns 4 = .ok (.iload_n 3, 1) := by decide +kernel
theorem dX3_burns_5 : decode cX3_burns 5 = .ok (.aload_n 0, 1) := by decide +kernel
theorem dX3_burns_6 : decode cX3_burns 6 = .ok (.getfield 48, 3) := by decide +kernel
theorem dX3_burns_9 : decode cX3_burns 9 = .ok (.if_icmp .ge 32, 3) := by decide +kernel
theorem dX3_burns_12 : decode cX3_burns 12 = .ok (.iload_n 2, 1) := by decide +kernel
theorem dX3_burns_13 : decode cX3_burns 13 = .ok (.aload_n 0, 1) := by decide +kernel
theorem dX3_burns_14 : decode cX3_burns 14 = .ok (.iload_n 3, 1) := by decide +kernel
theorem dX3_burns_15 : decode cX3_burns 15 = .ok (.iconst 0, 1) := by decide +kernel
theorem dX3_burns_16 : decode cX3_burns 16 = .ok (.invokevirtual 89, 3) := by decide +kernel
theorem dX3_burns_19 : decode cX3_burns 19 = .ok (.iload_n 1, 1) := by decide +kernel
theorem dX3_burns_20 : decode cX3_burns 20 = .ok (.if_icmp .ne 12, 3) := by decide +kernel
theorem dX3_burns_23 : decode cX3_burns 23 = .ok (.aload_n 0, 1) := by decide +kernel
theorem dX3_burns_24 : decode cX3_burns 24 = .ok (.iload_n 3, 1) := by decide +kernel
theorem dX3_burns_25 : decode cX3_burns 25 = .ok (.iconst 5, 1) := by decide +kernel
theorem dX3_burns_26 : decode cX3_burns 26 = .ok (.invokevirtual 89, 3) := by decide +kernel
theorem dX3_burns_29 : decode cX3_burns 29 = .ok (.goto 4, 3) := by decide +kernel
theorem dX3_burns_32 : decode cX3_burns 32 = .ok (.iconst 0, 1) := by decide +kernel
theorem dX3_burns_33 : decode cX3_burns 33 = .ok (.iadd, 1) := by decide +kernel
theorem dX3_burns_34 : decode cX3_burns 34 = .ok (.istore_n 2, 1) := by decide +kernel
theorem dX3_burns_35 : decode cX3_burns 35 = .ok (.iinc 3 1, 3) := by decide +kernel
theorem dX3_burns_38 : decode cX3_burns 38 = .ok (.goto (-34), 3) := by decide +kernel
theorem dX3_burns_41 : decode cX3_burns 41 = .ok (.iload_n 2, 1) := by decide +kernel
theorem dX3_burns_42 : decode cX3_burns 42 = .ok (.ireturn, 1) := by decide +kernel
set_option maxRecDepth 20000 in
theorem ggX3_burning_X3_isStreet : GoodIn wsX3_burning wsX3_isStreet := goodIn_r _ [6, 7, 8, 9, 5, 10, 25, 26, 27, 28, 29, 30, 31, 32, 33, 34, 35, 36, 37] (by decide +kernel) (by decide +kernel)
set_option maxRecDepth 20000 in
theorem gX3_burning_X3_isStreet : GoodIn wsX3_burning (wsV RX3 83 RX3 yX3_isStreet wsX3_isStreet) := goodIn_app (goodIn_of _ (by decide +kernel)) ggX3_burning_X3_isStreet
set_option maxRecDepth 20000 in
theorem ggX3_burning_X3_burns : GoodIn wsX3_burning wsX3_burns := goodIn_r _ [14, 15, 16, 17, 18, 5, 19, 20, 25, 26, 27, 28, 29, 30, 31, 32, 33, 34, 35, 36, 37] (by decide +kernel) (by decide +kernel)
set_option maxRecDepth 20000 in
theorem gX3_burning_X3_burns : GoodIn wsX3_burning (wsV RX3 117 RX3 yX3_burns wsX3_burns) := goodIn_app (goodIn_of _ (by decide +kernel)) ggX3_burning_X3_burns
set_option maxRecDepth 20000 in
theorem ggX3_burning_X3_fail : GoodIn wsX3_burning wsX3_fail := goodIn_r _ [24, 1, 25, 26, 27, 28, 29, 30, 31, 32, 33, 34, 35, 36, 37] (by decide +kernel) (by decide +kernel)
set_option maxRecDepth 20000 in
theorem gX3_burning_X3_fail : GoodIn wsX3_burning (wsV RX3 66 RX3 yX3_fail wsX3_fail) := goodIn_app (goodIn_of _ (by decide +kernel)) ggX3_burning_X3_fail
theorem dX3_burning_0 : decode cX3_burning 0 = .ok (.aload_n 0, 1) := by decide +kernel
theorem dX3_burning_1 : decode cX3_burning 1 = .ok (.iconst 0, 1) := by decide +kernel
theorem dX3_burning_2 : decode cX3_burning 2 = .ok (.putfield 34, 3) := by decide +kernel
theorem dX3_burning_5 : decode cX3_burning 5 = .ok (.aload_n 0, 1) := by decide +kernel
theorem dX3_burning_6 : decode cX3_burning 6 = .ok (.iload_n 1, 1) := by decide +kernel
theorem dX3_burning_7 : decode cX3_burning 7 = .ok (.invokevirtual 83, 3) := by decide +kernel
theorem dX3_burning_10 : decode cX3_burning 10 = .ok (.ifCond .eq 11, 3) := by decide +kernel
theorem dX3_burning_13 : decode cX3_burning 13 = .ok (.aload_n 0, 1) := by decide +kernel
theorem dX3_burning_14 : decode cX3_burning 14 = .ok (.iload_n 1, 1) := by decide +kernel
theorem dX3_burning_15 : decode cX3_burning 15 = .ok (.invokevirtual 117, 3) := by decide +kernel
theorem dX3_burning_18 : decode cX3_burning 18 = .ok (.goto 8, 3) := by decide +kernel
theorem dX3_burning_21 : decode cX3_burning 21 = .ok (.aload_n 0, 1) := by decide +kernel
theorem dX3_burning_22 : decode cX3_burning 22 = .ok (.iconst 1, 1) := by decide +kernel
theorem dX3_burning_23 : decode cX3_burning 23 = .ok (.invokevirtual 66, 3) := by decide +kernel
theorem dX3_burning_26 : decode cX3_burning 26 = .ok (.ireturn, 1) := by decide +kernel
set_option maxRecDepth 20000 in
theorem ggX3_all_X3_la : GoodIn wsX3_all wsX3_la := goodIn_r _ [6, 7, 8, 9, 10, 11, 12, 13, 14, 15, 16, 17, 18, 19, 20] (by decide +kernel) (by decide +kernel)
set_option maxRecDepth 20000 in
theorem gX3_all_X3_la : GoodIn wsX3_all (wsV RX3 89 RX3 yX3_la wsX3_la) := goodIn_app (goodIn_of _ (by decide +kernel)) ggX3_all_X3_la
theorem dX3_all_0 : decode cX3_all 0 = .ok (.iconst 0, 1) := by decide +kernel
theorem dX3_all_1 : decode cX3_all 1 = .ok (.istore_n 2, 1) := by decide +kernel
theorem dX3_all_2 : decode cX3_all 2 = .ok (.iconst 0, 1) := by decide +kernel
theorem dX3_all_3 : decode cX3_all 3 = .ok (.istore_n 3, 1) := by decide +kernel
theorem dX3_all_4 : decode cX3_all 4 = .ok (.iload_n 3, 1) := by decide +kernel
theorem dX3_all_5 : decode cX3_all 5 = .ok (.aload_n 0, 1) := by decide +kernel
theorem dX3_all_6 : decode cX3_all 6 = .ok (.getfield 48, 3) := by decide +kernel
theorem dX3_all_9 : decode cX3_all 9 = .ok (.if_icmp .ge 18, 3) := by decide +kernel
theorem dX3_all_12 : decode cX3_all 12 = .ok (.iload_n 2, 1) := by decide +kernel
theorem dX3_all_13 : decode cX3_all 13 = .ok (.aload_n 0, 1) := by decide +kernel
theorem dX3_all_14 : decode cX3_all 14 = .ok (.iload_n 3, 1) := by decide +kernel
theorem dX3_all_15 : decode cX3_all 15 = .ok (.iload_n 1, 1) := by decide +kernel
theorem dX3_all_16 : decode cX3_all 16 = .ok (.invokevirtual 89, 3) := by decide +kernel
theorem dX3_all_19 : decode cX3_all 19 = .ok (.iadd, 1) := by decide +kernel
theorem dX3_all_20 : decode cX3_all 20 = .ok (.istore_n 2, 1) := by decide +kernel
theorem dX3_all_21 : decode cX3_all 21 = .ok (.iinc 3 1, 3) := by decide +kernel
theorem dX3_all_24 : decode cX3_all 24 = .ok (.goto (-20), 3) := by decide +kernel
theorem dX3_all_27 : decode cX3_all 27 = .ok (.iload_n 2, 1) := by decide +kernel
theorem dX3_all_28 : decode cX3_all 28 = .ok (.ireturn, 1) := by decide +kernel
set_option maxRecDepth 20000 in
theorem ggX3_dark_X3_burns : GoodIn wsX3_dark wsX3_burns := goodIn_r _ [6, 7, 8, 9, 10, 5, 11, 12, 13, 14, 15, 16, 17, 18, 19, 20, 21, 22, 23, 24, 25] (by decide +kernel) (by decide +kernel)
set_option maxRecDepth 20000 in
theorem gX3_dark_X3_burns : GoodIn wsX3_dark (wsV RX3 117 RX3 yX3_burns wsX3_burns) := goodIn_app (goodIn_of _ (by decide +kernel)) ggX3_dark_X3_burns
theorem dX3_dark_0 : decode cX3_dark 0 = .ok (.iconst 0, 1) := by decide +kernel
theorem dX3_dark_1 : decode cX3_dark 1 = .ok (.istore_n 1, 1) := by decide +kernel
theorem dX3_dark_2 : decode cX3_dark 2 = .ok (.iconst 0, 1) := by decide +kernel
theorem dX3_dark_3 : decode cX3_dark 3 = .ok (.istore_n 2, 1) := by decide +kernel
theorem dX3_dark_4 : decode cX3_dark 4 = .ok (.iload_n 2, 1) := by decide +kernel
theorem dX3_dark_5 : decode cX3_dark 5 = .ok (.aload_n 0, 1) := by decide +kernel
theorem dX3_dark_6 : decode cX3_dark 6 = .ok (.getfield 45, 3) := by decide +kernel
theorem dX3_dark_9 : decode cX3_dark 9 = .ok (.if_icmp .ge 25, 3) := by decide +kernel
theorem dX3_dark_12 : decode cX3_dark 12 = .ok (.iload_n 1, 1) := by decide +kernel
theorem dX3_dark_13 : decode cX3_dark 13 = .ok (.aload_n 0, 1) := by decide +kernel
theorem dX3_dark_14 : decode cX3_dark 14 = .ok (.iload_n 2, 1) := by decide +kernel
theorem dX3_dark_15 : decode cX3_dark 15 = .ok (.invokevirtual 117, 3) := by decide +kernel
theorem dX3_dark_18 : decode cX3_dark 18 = .ok (.ifCond .ne 7, 3) := by decide +kernel
theorem dX3_dark_21 : decode cX3_dark 21 = .ok (.iconst 1, 1) := by decide +kernel
theorem dX3_dark_22 : decode cX3_dark 22 = .ok (.goto 4, 3) := by decide +kernel
theorem dX3_dark_25 : decode cX3_dark 25 = .ok (.iconst 0, 1) := by decide +kernel
theorem dX3_dark_26 : decode cX3_dark 26 = .ok (.iadd, 1) := by decide +kernel
theorem dX3_dark_27 : decode cX3_dark 27 = .ok (.istore_n 1, 1) := by decide +kernel
theorem dX3_dark_28 : decode cX3_dark 28 = .ok (.iinc 2 1, 3) := by decide +kernel
theorem dX3_dark_31 : decode cX3_dark 31 = .ok (.goto (-27), 3) := by decide +kernel
theorem dX3_dark_34 : decode cX3_dark 34 = .ok (.iload_n 1, 1) := by decide +kernel
theorem dX3_dark_35 : decode cX3_dark 35 = .ok (.ireturn, 1) := by decide +kernel
set_option maxRecDepth 20000 in
theorem ggX3_counted_X3_all : GoodIn wsX3_counted wsX3_all := goodIn_r _ [11, 5, 12, 13, 14, 10, 15, 16, 25, 26, 27, 28, 29, 30, 31, 32, 33, 34, 35, 36, 37] (by decide +kernel) (by decide +kernel)
set_option maxRecDepth 20000 in
theorem gX3_counted_X3_all : GoodIn wsX3_counted (wsV RX3 120 RX3 yX3_all wsX3_all) := goodIn_app (goodIn_of _ (by decide +kernel)) ggX3_counted_X3_all
set_option maxRecDepth 20000 in
theorem ggX3_counted_X3_dark : GoodIn wsX3_counted wsX3_dark := goodIn_r _ [20, 4, 21, 22, 23, 10, 24, 5, 12, 13, 14, 15, 16, 25, 26, 27, 28, 29, 30, 31, 32, 33, 34, 35, 36, 37] (by decide +kernel) (by decide +kernel)
set_option maxRecDepth 20000 in
theorem gX3_counted_X3_dark : GoodIn wsX3_counted (wsV RX3 123 RX3 yX3_dark wsX3_dark) := goodIn_app (goodIn_of _ (by decide +kernel)) ggX3_counted_X3_dark
theorem dX3_counted_0 : decode cX3_counted 0 = .ok (.bipush 10, 2) := by decide +kernel
theorem dX3_counted_2 : decode cX3_counted 2 = .ok (.newarray .int, 2) := by decide +kernel
theorem dX3_counted_4 : decode cX3_counted 4 = .ok (.dup, 1) := by decide +kernel
theorem dX3_counted_5 : decode cX3_counted 5 = .ok (.iconst 0, 1) := by decide +kernel
theorem dX3_counted_6 : decode cX3_counted 6 = .ok (.aload_n 0, 1) := by decide +kernel
theorem dX3_counted_7 : decode cX3_counted 7 = .ok (.getfield 31, 3) := by decide +kernel
theorem dX3_counted_10 : decode cX3_counted 10 = .ok (.iconst 0, 1) := by decide +kernel
theorem dX3_counted_11 : decode cX3_counted 11 = .ok (.iaload, 1) := by decide +kernel
theorem dX3_counted_12 : decode cX3_counted 12 = .ok (.iastore, 1) := by decide +kernel
theorem dX3_counted_13 : decode cX3_counted 13 = .ok (.dup, 1) := by decide +kernel
theorem dX3_counted_14 : decode cX3_counted 14 = .ok (.iconst 1, 1) := by decide +kernel
theorem dX3_counted_15 : decode cX3_counted 15 = .ok (.aload_n 0, 1) := by decide +kernel
theorem dX3_counted_16 : decode cX3_counted 16 = .ok (.getfield 31, 3) := by decide +kernel
theorem dX3_counted_19 : decode cX3_counted 19 = .ok (.iconst 1, 1) := by decide +kernel
theorem dX3_counted_20 : decode cX3_counted 20 = .ok (.iaload, 1) := by decide +kernel
theorem dX3_counted_21 : decode cX3_counted 21 = .ok (.iastore, 1) := by decide +kernel
theorem dX3_counted_22 : decode cX3_counted 22 = .ok (.dup, 1) := by decide +kernel
theorem dX3_counted_23 : decode cX3_counted 23 = .ok (.iconst 2, 1) := by decide +kernel
theorem dX3_counted_24 : decode cX3_counted 24 = .ok (.aload_n 0, 1) := by decide +kernel
theorem dX3_counted_25 : decode cX3_counted 25 = .ok (.getfield 38, 3) := by decide +kernel
theorem dX3_counted_28 : decode cX3_counted 28 = .ok (.iastore, 1) := by decide +kernel
theorem dX3_counted_29 : decode cX3_counted 29 = .ok (.dup, 1) := by decide +kernel
theorem dX3_counted_30 : decode cX3_counted 30 = .ok (.iconst 3, 1) := by decide +kernel
theorem dX3_counted_31 : decode cX3_counted 31 = .ok (.aload_n 0, 1) := by decide +kernel
theorem dX3_counted_32 : decode cX3_counted 32 = .ok (.getfield 45, 3) := by decide +kernel
theorem dX3_counted_35 : decode cX3_counted 35 = .ok (.iastore, 1) := by decide +kernel
theorem dX3_counted_36 : decode cX3_counted 36 = .ok (.dup, 1) := by decide +kernel
theorem dX3_counted_37 : decode cX3_counted 37 = .ok (.iconst 4, 1) := by decide +kernel
theorem dX3_counted_38 : decode cX3_counted 38 = .ok (.aload_n 0, 1) := by decide +kernel
theorem dX3_counted_39 : decode cX3_counted 39 = .ok (.getfield 48, 3) := by decide +kernel
theorem dX3_counted_42 : decode cX3_counted 42 = .ok (.iastore, 1) := by decide +kernel
theorem dX3_counted_43 : decode cX3_counted 43 = .ok (.dup, 1) := by decide +kernel
theorem dX3_counted_44 : decode cX3_counted 44 = .ok (.iconst 5, 1) := by decide +kernel
theorem dX3_counted_45 : decode cX3_counted 45 = .ok (.aload_n 0, 1) := by decide +kernel
theorem dX3_counted_46 : decode cX3_counted 46 = .ok (.iconst 5, 1) := by decide +kernel
theorem dX3_counted_47 : decode cX3_counted 47 = .ok (.invokevirtual 120, 3) := by decide +kernel
theorem dX3_counted_50 : decode cX3_counted 50 = .ok (.iastore, 1) := by decide +kernel
theorem dX3_counted_51 : decode cX3_counted 51 = .ok (.dup, 1) := by decide +kernel
theorem dX3_counted_52 : decode cX3_counted 52 = .ok (.bipush 6, 2) := by decide +kernel
theorem dX3_counted_54 : decode cX3_counted 54 = .ok (.aload_n 0, 1) := by decide +kernel
theorem dX3_counted_55 : decode cX3_counted 55 = .ok (.invokevirtual 123, 3) := by decide +kernel
theorem dX3_counted_58 : decode cX3_counted 58 = .ok (.iastore, 1) := by decide +kernel
theorem dX3_counted_59 : decode cX3_counted 59 = .ok (.dup, 1) := by decide +kernel
theorem dX3_counted_60 : decode cX3_counted 60 = .ok (.bipush 7, 2) := by decide +kernel
theorem dX3_counted_62 : decode cX3_counted 62 = .ok (.aload_n 0, 1) := by decide +kernel
theorem dX3_counted_63 : decode cX3_counted 63 = .ok (.getfield 51, 3) := by decide +kernel
theorem dX3_counted_66 : decode cX3_counted 66 = .ok (.iastore, 1) := by decide +kernel
theorem dX3_counted_67 : decode cX3_counted 67 = .ok (.dup, 1) := by decide +kernel
theorem dX3_counted_68 : decode cX3_counted 68 = .ok (.bipush 8, 2) := by decide +kernel
theorem dX3_counted_70 : decode cX3_counted 70 = .ok (.aload_n 0, 1) := by decide +kernel
theorem dX3_counted_71 : decode cX3_counted 71 = .ok (.iconst 3, 1) := by decide +kernel
theorem dX3_counted_72 : decode cX3_counted 72 = .ok (.invokevirtual 120, 3) := by decide +kernel
theorem dX3_counted_75 : decode cX3_counted 75 = .ok (.iastore, 1) := by decide +kernel
theorem dX3_counted_76 : decode cX3_counted 76 = .ok (.dup, 1) := by decide +kernel
theorem dX3_counted_77 : decode cX3_counted 77 = .ok (.bipush 9, 2) := by decide +kernel
theorem dX3_counted_79 : decode cX3_counted 79 = .ok (.aload_n 0, 1) := by decide +kernel
theorem dX3_counted_80 : decode cX3_counted 80 = .ok (.getfield 31, 3) := by decide +kernel
theorem dX3_counted_83 : decode cX3_counted 83 = .ok (.iconst 2, 1) := by decide +kernel
theorem dX3_counted_84 : decode cX3_counted 84 = .ok (.iaload, 1) := by decide +kernel
theorem dX3_counted_85 : decode cX3_counted 85 = .ok (.iastore, 1) := by decide +kernel
theorem dX3_counted_86 : decode cX3_counted 86 = .ok (.astore_n 2, 1) := by decide +kernel
theorem dX3_counted_87 : decode cX3_counted 87 = .ok (.aload_n 2, 1) := by decide +kernel
theorem dX3_counted_88 : decode cX3_counted 88 = .ok (.iload_n 1, 1) := by decide +kernel
theorem dX3_counted_89 : decode cX3_counted 89 = .ok (.iaload, 1) := by decide +kernel
theorem dX3_counted_90 : decode cX3_counted 90 = .ok (.ireturn, 1) := by decide +kernel
set_option maxRecDepth 20000 in
theorem ggX3_count_X3_isIn : GoodIn wsX3_count wsX3_isIn := goodIn_r _ [5] (by decide +kernel) (by decide +kernel)
set_option maxRecDepth 20000 in
theorem gX3_count_X3_isIn : GoodIn wsX3_count (va_wsS RX3 41 yX3_isIn wsX3_isIn) := goodIn_app (goodIn_of _ (by decide +kernel)) ggX3_count_X3_isIn
set_option maxRecDepth 20000 in
theorem ggX3_count_X3_counted : GoodIn wsX3_count wsX3_counted := goodIn_r _ [9, 10, 11, 12, 13, 14, 15, 16, 17, 18, 4, 19, 20, 21, 22, 23, 24, 25, 26, 27, 28, 29, 30, 31, 32, 37, 38, 39, 40, 41, 42, 43, 44, 45, 46, 47, 48, 49] (by decide +kernel) (by decide +kernel)
set_option maxRecDepth 20000 in
theorem gX3_count_X3_counted : GoodIn wsX3_count (wsV RX3 127 RX3 yX3_counted wsX3_counted) := goodIn_app (goodIn_of _ (by decide +kernel)) ggX3_count_X3_counted
set_option maxRecDepth 20000 in
theorem ggX3_count_X3_fail : GoodIn wsX3_count wsX3_fail := goodIn_r _ [36, 1, 37, 38, 39, 40, 41, 42, 43, 44, 45, 46, 47, 48, 49] (by decide +kernel) (by decide +kernel)
set_option maxRecDepth 20000 in
theorem gX3_count_X3_fail : GoodIn wsX3_count (wsV RX3 66 RX3 yX3_fail wsX3_fail) := goodIn_app (goodIn_of _ (by decide +kernel)) ggX3_count_X3_fail
theorem dX3_count_0 : decode cX3_count 0 = .ok (.aload_n 0, 1) := by decide +kernel
theorem dX3_count_1 : decode cX3_count 1 = .ok (.iconst 0, 1) := by decide +kernel
theorem dX3_count_2 : decode cX3_count 2 = .ok (.putfield 34, 3) := by decide +kernel
theorem dX3_count_5 : decode cX3_count 5 = .ok (.iload_n 1, 1) := by decide +kernel
theorem dX3_count_6 : decode cX3_count 6 = .ok (.iconst 0, 1) := by decide +kernel
theorem dX3_count_7 : decode cX3_count 7 = .ok (.bipush 9, 2) := by decide +kernel
theorem dX3_count_9 : decode cX3_count 9 = .ok (.invokestatic 41, 3) := by decide +kernel
theorem dX3_count_12 : decode cX3_count 12 = .ok (.ifCond .eq 11, 3) := by decide +kernel
theorem dX3_count_15 : decode cX3_count 15 = .ok (.aload_n 0, 1) := by decide +kernel
theorem dX3_count_16 : decode cX3_count 16 = .ok (.iload_n 1, 1) := by decide +kernel
theorem dX3_count_17 : decode cX3_count 17 = .ok (.invokevirtual 127, 3) := by decide +kernel
theorem dX3_count_20 : decode cX3_count 20 = .ok (.goto 8, 3) := by decide +kernel
theorem dX3_count_23 : decode cX3_count 23 = .ok (.aload_n 0, 1) := by decide +kernel
theorem dX3_count_24 : decode cX3_count 24 = .ok (.iconst 1, 1) := by decide +kernel
theorem dX3_count_25 : decode cX3_count 25 = .ok (.invokevirtual 66, 3) := by decide +kernel
theorem dX3_count_28 : decode cX3_count 28 = .ok (.ireturn, 1) := by decide +kernel
set_option maxRecDepth 20000 in
theorem ggX3_corner__X3_la : GoodIn wsX3_corner_ wsX3_la := goodIn_r _ [5, 6, 26, 27, 28, 29, 30, 31, 32, 33, 34, 35, 36, 37, 38] (by decide +kernel) (by decide +kernel)
set_option maxRecDepth 20000 in
theorem gX3_corner__X3_la : GoodIn wsX3_corner_ (wsV RX3 89 RX3 yX3_la wsX3_la) := goodIn_app (goodIn_of _ (by decide +kernel)) ggX3_corner__X3_la
set_option maxRecDepth 20000 in
theorem ggX3_corner__X3_ro : GoodIn wsX3_corner_ wsX3_ro := goodIn_r _ [10, 11, 26, 27, 28, 29, 30, 31, 32, 33, 34, 35, 36, 37, 38] (by decide +kernel) (by decide +kernel)
set_option maxRecDepth 20000 in
theorem gX3_corner__X3_ro : GoodIn wsX3_corner_ (wsV RX3 54 RX3 yX3_ro wsX3_ro) := goodIn_app (goodIn_of _ (by decide +kernel)) ggX3_corner__X3_ro
set_option maxRecDepth 20000 in
theorem ggX3_corner__X3_pe : GoodIn wsX3_corner_ wsX3_pe := goodIn_r _ [15, 16, 26, 27, 28, 29, 30, 31, 32, 33, 34, 35, 36, 37, 38] (by decide +kernel) (by decide +kernel)
set_option maxRecDepth 20000 in
theorem gX3_corner__X3_pe : GoodIn wsX3_corner_ (wsV RX3 99 RX3 yX3_pe wsX3_pe) := goodIn_app (goodIn_of _ (by decide +kernel)) ggX3_corner__X3_pe
set_option maxRecDepth 20000 in
theorem ggX3_corner__X3_away : GoodIn wsX3_corner_ wsX3_away := goodIn_r _ [20, 21, 22, 23, 24, 25, 26, 27, 28, 29, 30, 31, 32, 33, 34, 35, 36, 37, 38] (by decide +kernel) (by decide +kernel)
set_option maxRecDepth 20000 in
theorem gX3_corner__X3_away : GoodIn wsX3_corner_ (wsV RX3 105 RX3 yX3_away wsX3_away) := goodIn_app (goodIn_of _ (by decide +kernel)) ggX3_corner__X3_away
theorem dX3_corner__0 : decode cX3_corner_ 0 = .ok (.aload_n 0, 1) := by decide +kernel
theorem dX3_corner__1 : decode cX3_corner_ 1 = .ok (.aload_n 0, 1) := by decide +kernel
theorem dX3_corner__2 : decode cX3_corner_ 2 = .ok (.iload_n 2, 1) := by decide +kernel
theorem dX3_corner__3 : decode cX3_corner_ 3 = .ok (.iconst 0, 1) := by decide +kernel
theorem dX3_corner__4 : decode cX3_corner_ 4 = .ok (.invokevirtual 89, 3) := by decide +kernel
theorem dX3_corner__7 : decode cX3_corner_ 7 = .ok (.iconst 0, 1) := by decide +kernel
theorem dX3_corner__8 : decode cX3_corner_ 8 = .ok (.invokevirtual 54, 3) := by decide +kernel
theorem dX3_corner__11 : decode cX3_corner_ 11 = .ok (.istore_n 3, 1) := by decide +kernel
theorem dX3_corner__12 : decode cX3_corner_ 12 = .ok (.aload_n 0, 1) := by decide +kernel
theorem dX3_corner__13 : decode cX3_corner_ 13 = .ok (.aload_n 0, 1) := by decide +kernel
theorem dX3_corner__14 : decode cX3_corner_ 14 = .ok (.iload_n 2, 1) := by decide +kernel
theorem dX3_corner__15 : decode cX3_corner_ 15 = .ok (.iconst 0, 1) := by decide +kernel
theorem dX3_corner__16 : decode cX3_corner_ 16 = .ok (.invokevirtual 89, 3) := by decide +kernel
theorem dX3_corner__19 : decode cX3_corner_ 19 = .ok (.iconst 1, 1) := by decide +kernel
theorem dX3_corner__20 : decode cX3_corner_ 20 = .ok (.invokevirtual 54, 3) := by decide +kernel
theorem dX3_corner__23 : decode cX3_corner_ 23 = .ok (.istore 4, 2) := by decide +kernel
theorem dX3_corner__25 : decode cX3_corner_ 25 = .ok (.aload_n 0, 1) := by decide +kernel
theorem dX3_corner__26 : decode cX3_corner_ 26 = .ok (.aload_n 0, 1) := by decide +kernel
theorem dX3_corner__27 : decode cX3_corner_ 27 = .ok (.iload_n 1, 1) := by decide +kernel
theorem dX3_corner__28 : decode cX3_corner_ 28 = .ok (.iconst 1, 1) := by decide +kernel
theorem dX3_corner__29 : decode cX3_corner_ 29 = .ok (.invokevirtual 99, 3) := by decide +kernel
theorem dX3_corner__32 : decode cX3_corner_ 32 = .ok (.iload 4, 2) := by decide +kernel
theorem dX3_corner__34 : decode cX3_corner_ 34 = .ok (.invokevirtual 105, 3) := by decide +kernel
theorem dX3_corner__37 : decode cX3_corner_ 37 = .ok (.aload_n 0, 1) := by decide +kernel
theorem dX3_corner__38 : decode cX3_corner_ 38 = .ok (.aload_n 0, 1) := by decide +kernel
theorem dX3_corner__39 : decode cX3_corner_ 39 = .ok (.iload_n 1, 1) := by decide +kernel
theorem dX3_corner__40 : decode cX3_corner_ 40 = .ok (.iconst 1, 1) := by decide +kernel
theorem dX3_corner__41 : decode cX3_corner_ 41 = .ok (.invokevirtual 99, 3) := by decide +kernel
theorem dX3_corner__44 : decode cX3_corner_ 44 = .ok (.iload_n 3, 1) := by decide +kernel
theorem dX3_corner__45 : decode cX3_corner_ 45 = .ok (.invokevirtual 105, 3) := by decide +kernel
theorem dX3_corner__48 : decode cX3_corner_ 48 = .ok (.if_icmp .ge 8, 3) := by decide +kernel
theorem dX3_corner__51 : decode cX3_corner_ 51 = .ok (.iload 4, 2) := by decide +kernel
theorem dX3_corner__53 : decode cX3_corner_ 53 = .ok (.goto 4, 3) := by decide +kernel
theorem dX3_corner__56 : decode cX3_corner_ 56 = .ok (.iload_n 3, 1) := by decide +kernel
theorem dX3_corner__57 : decode cX3_corner_ 57 = .ok (.istore 5, 2) := by decide +kernel
theorem dX3_corner__59 : decode cX3_corner_ 59 = .ok (.aload_n 0, 1) := by decide +kernel
theorem dX3_corner__60 : decode cX3_corner_ 60 = .ok (.iload_n 2, 1) := by decide +kernel
theorem dX3_corner__61 : decode cX3_corner_ 61 = .ok (.iconst 1, 1) := by decide +kernel
theorem dX3_corner__62 : decode cX3_corner_ 62 = .ok (.invokevirtual 89, 3) := by decide +kernel
theorem dX3_corner__65 : decode cX3_corner_ 65 = .ok (.aload_n 0, 1) := by decide +kernel
theorem dX3_corner__66 : decode cX3_corner_ 66 = .ok (.iload_n 1, 1) := by decide +kernel
theorem dX3_corner__67 : decode cX3_corner_ 67 = .ok (.iconst 2, 1) := by decide +kernel
theorem dX3_corner__68 : decode cX3_corner_ 68 = .ok (.invokevirtual 99, 3) := by decide +kernel
theorem dX3_corner__71 : decode cX3_corner_ 71 = .ok (.iconst 2, 1) := by decide +kernel
theorem dX3_corner__72 : decode cX3_corner_ 72 = .ok (.iadd, 1) := by decide +kernel
theorem dX3_corner__73 : decode cX3_corner_ 73 = .ok (.if_icmp .gt 21, 3) := by decide +kernel
theorem dX3_corner__76 : decode cX3_corner_ 76 = .ok (.aload_n 0, 1) := by decide +kernel
theorem dX3_corner__77 : decode cX3_corner_ 77 = .ok (.aload_n 0, 1) := by decide +kernel
theorem dX3_corner__78 : decode cX3_corner_ 78 = .ok (.iload_n 1, 1) := by decide +kernel
theorem dX3_corner__79 : decode cX3_corner_ 79 = .ok (.iconst 1, 1) := by decide +kernel
theorem dX3_corner__80 : decode cX3_corner_ 80 = .ok (.invokevirtual 99, 3) := by decide +kernel
theorem dX3_corner__83 : decode cX3_corner_ 83 = .ok (.iload 5, 2) := by decide +kernel
theorem dX3_corner__85 : decode cX3_corner_ 85 = .ok (.invokevirtual 105, 3) := by decide +kernel
theorem dX3_corner__88 : decode cX3_corner_ 88 = .ok (.sipush 9999, 3) := by decide +kernel
theorem dX3_corner__91 : decode cX3_corner_ 91 = .ok (.if_icmp .ne 7, 3) := by decide +kernel
theorem dX3_corner__94 : decode cX3_corner_ 94 = .ok (.iconst (-1), 1) := by decide +kernel
theorem dX3_corner__95 : decode cX3_corner_ 95 = .ok (.goto 5, 3) := by decide +kernel
theorem dX3_corner__98 : decode cX3_corner_ 98 = .ok (.iload 5, 2) := by decide +kernel
theorem dX3_corner__100 : decode cX3_corner_ 100 = .ok (.ireturn, 1) := by decide +kernel
set_option maxRecDepth 20000 in
theorem ggX3_look_X3_pe : GoodIn wsX3_look wsX3_pe := goodIn_r _ [6, 7, 40, 41, 42, 43, 44, 45, 46, 47, 48, 49, 50, 51, 52] (by decide +kernel) (by decide +kernel)
set_option maxRecDepth 20000 in
theorem gX3_look_X3_pe : GoodIn wsX3_look (wsV RX3 99 RX3 yX3_pe wsX3_pe) := goodIn_app (goodIn_of _ (by decide +kernel)) ggX3_look_X3_pe
set_option maxRecDepth 20000 in
theorem ggX3_look_X3_la : GoodIn wsX3_look wsX3_la := goodIn_r _ [11, 12, 40, 41, 42, 43, 44, 45, 46, 47, 48, 49, 50, 51, 52] (by decide +kernel) (by decide +kernel)
set_option maxRecDepth 20000 in
theorem gX3_look_X3_la : GoodIn wsX3_look (wsV RX3 89 RX3 yX3_la wsX3_la) := goodIn_app (goodIn_of _ (by decide +kernel)) ggX3_look_X3_la
set_option maxRecDepth 20000 in
theorem ggX3_look_X3_goer : GoodIn wsX3_look wsX3_goer := goodIn_r _ [16, 17, 2, 3, 4, 5, 6, 7, 40, 41, 42, 43, 44, 45, 46, 47, 48, 49, 50, 51, 52] (by decide +kernel) (by decide +kernel)
set_option maxRecDepth 20000 in
theorem gX3_look_X3_goer : GoodIn wsX3_look (wsV RX3 108 RX3 yX3_goer wsX3_goer) := goodIn_app (goodIn_of _ (by decide +kernel)) ggX3_look_X3_goer
set_option maxRecDepth 20000 in
theorem ggX3_look_X3_corner_ : GoodIn wsX3_look wsX3_corner_ := goodIn_r _ [21, 8, 9, 10, 5, 11, 12, 22, 23, 24, 25, 26, 2, 3, 4, 6, 7, 27, 28, 29, 30, 31, 32, 33, 34, 35, 40, 41, 42, 43, 44, 45, 46, 47, 48, 49, 50, 51, 52] (by decide +kernel) (by decide +kernel)
set_option maxRecDepth 20000 in
theorem gX3_look_X3_corner_ : GoodIn wsX3_look (wsV RX3 130 RX3 yX3_corner_ wsX3_corner_) := goodIn_app (goodIn_of _ (by decide +kernel)) ggX3_look_X3_corner_
set_option maxRecDepth 20000 in
theorem ggX3_look_X3_put : GoodIn wsX3_look wsX3_put := goodIn_r _ [39, 7, 40, 41, 42, 43, 44, 45, 46, 47, 48, 49, 50, 51, 52] (by decide +kernel) (by decide +kernel)
set_option maxRecDepth 20000 in
theorem gX3_look_X3_put : GoodIn wsX3_look (wsV RX3 102 RX3 yX3_put wsX3_put) := goodIn_app (goodIn_of _ (by decide +kernel)) ggX3_look_X3_put
set_option maxRecDepth 20000 in
theorem ggX3_look_X3_away : GoodIn wsX3_look wsX3_away := goodIn_r _ [30, 31, 32, 33, 34, 35, 40, 41, 42, 43, 44, 45, 46, 47, 48, 49, 50, 51, 52] (by decide +kernel) (by decide +kernel)
set_option maxRecDepth 20000 in
theorem gX3_look_X3_away : GoodIn wsX3_look (wsV RX3 105 RX3 yX3_away wsX3_away) := goodIn_app (goodIn_of _ (by decide +kernel)) ggX3_look_X3_away
theorem dX3_look_0 : decode cX3_look 0 = .ok (.aload_n 0, 1) := by decide +kernel
theorem dX3_look_1 : decode cX3_look 1 = .ok (.iload_n 1, 1) := by decide +kernel
theorem dX3_look_2 : decode cX3_look 2 = .ok (.iconst 4, 1) := by decide +kernel
theorem dX3_look_3 : decode cX3_look 3 = .ok (.invokevirtual 99, 3) := by decide +kernel
theorem dX3_look_6 : decode cX3_look 6 = .ok (.istore_n 2, 1) := by decide +kernel
theorem dX3_look_7 : decode cX3_look 7 = .ok (.iconst 1, 1) := by decide +kernel
theorem dX3_look_8 : decode cX3_look 8 = .ok (.istore_n 3, 1) := by decide +kernel
theorem dX3_look_9 : decode cX3_look 9 = .ok (.iload_n 3, 1) := by decide +kernel
theorem dX3_look_10 : decode cX3_look 10 = .ok (.iload_n 2, 1) := by decide +kernel
theorem dX3_look_11 : decode cX3_look 11 = .ok (.if_icmp .gt 149, 3) := by decide +kernel
theorem dX3_look_14 : decode cX3_look 14 = .ok (.aload_n 0, 1) := by decide +kernel
theorem dX3_look_15 : decode cX3_look 15 = .ok (.iload_n 1, 1) := by decide +kernel
theorem dX3_look_16 : decode cX3_look 16 = .ok (.bipush 8, 2) := by decide +kernel
theorem dX3_look_18 : decode cX3_look 18 = .ok (.invokevirtual 99, 3) := by decide +kernel
theorem dX3_look_21 : decode cX3_look 21 = .ok (.iload_n 3, 1) := by decide +kernel
theorem dX3_look_22 : decode cX3_look 22 = .ok (.iadd, 1) := by decide +kernel
theorem dX3_look_23 : decode cX3_look 23 = .ok (.iload_n 2, 1) := by decide +kernel
theorem dX3_look_24 : decode cX3_look 24 = .ok (.irem, 1) := by decide +kernel
theorem dX3_look_25 : decode cX3_look 25 = .ok (.istore 4, 2) := by decide +kernel
theorem dX3_look_27 : decode cX3_look 27 = .ok (.aload_n 0, 1) := by decide +kernel
theorem dX3_look_28 : decode cX3_look 28 = .ok (.getfield 25, 3) := by decide +kernel
theorem dX3_look_31 : decode cX3_look 31 = .ok (.bipush 10, 2) := by decide +kernel
theorem dX3_look_33 : decode cX3_look 33 = .ok (.iload_n 1, 1) := by decide +kernel
theorem dX3_look_34 : decode cX3_look 34 = .ok (.imul, 1) := by decide +kernel
theorem dX3_look_35 : decode cX3_look 35 = .ok (.iload 4, 2) := by decide +kernel
theorem dX3_look_37 : decode cX3_look 37 = .ok (.iadd, 1) := by decide +kernel
theorem dX3_look_38 : decode cX3_look 38 = .ok (.iaload, 1) := by decide +kernel
theorem dX3_look_39 : decode cX3_look 39 = .ok (.istore 5, 2) := by decide +kernel
theorem dX3_look_41 : decode cX3_look 41 = .ok (.aload_n 0, 1) := by decide +kernel
theorem dX3_look_42 : decode cX3_look 42 = .ok (.iload 5, 2) := by decide +kernel
theorem dX3_look_44 : decode cX3_look 44 = .ok (.iconst 5, 1) := by decide +kernel
theorem dX3_look_45 : decode cX3_look 45 = .ok (.invokevirtual 89, 3) := by decide +kernel
theorem dX3_look_48 : decode cX3_look 48 = .ok (.iconst 1, 1) := by decide +kernel
theorem dX3_look_49 : decode cX3_look 49 = .ok (.if_icmp .eq 105, 3) := by decide +kernel
theorem dX3_look_52 : decode cX3_look 52 = .ok (.aload_n 0, 1) := by decide +kernel
theorem dX3_look_53 : decode cX3_look 53 = .ok (.iload 5, 2) := by decide +kernel
theorem dX3_look_55 : decode cX3_look 55 = .ok (.invokevirtual 108, 3) := by decide +kernel
theorem dX3_look_58 : decode cX3_look 58 = .ok (.iconst (-1), 1) := by decide +kernel
theorem dX3_look_59 : decode cX3_look 59 = .ok (.if_icmp .ne 95, 3) := by decide +kernel
theorem dX3_look_62 : decode cX3_look 62 = .ok (.aload_n 0, 1) := by decide +kernel
theorem dX3_look_63 : decode cX3_look 63 = .ok (.iload_n 1, 1) := by decide +kernel
theorem dX3_look_64 : decode cX3_look 64 = .ok (.iload 5, 2) := by decide +kernel
theorem dX3_look_66 : decode cX3_look 66 = .ok (.invokevirtual 130, 3) := by decide +kernel
theorem dX3_look_69 : decode cX3_look 69 = .ok (.iconst (-1), 1) := by decide +kernel
theorem dX3_look_70 : decode cX3_look 70 = .ok (.if_icmp .ne 6, 3) := by decide +kernel
theorem dX3_look_73 : decode cX3_look 73 = .ok (.goto 81, 3) := by decide +kernel
theorem dX3_look_76 : decode cX3_look 76 = .ok (.aload_n 0, 1) := by decide +kernel
theorem dX3_look_77 : decode cX3_look 77 = .ok (.iload_n 1, 1) := by decide +kernel
theorem dX3_look_78 : decode cX3_look 78 = .ok (.iconst 3, 1) := by decide +kernel
theorem dX3_look_79 : decode cX3_look 79 = .ok (.invokevirtual 99, 3) := by decide +kernel
theorem dX3_look_82 : decode cX3_look 82 = .ok (.ifCond .ne 14, 3) := by decide +kernel
theorem dX3_look_85 : decode cX3_look 85 = .ok (.aload_n 0, 1) := by decide +kernel
theorem dX3_look_86 : decode cX3_look 86 = .ok (.iload 5, 2) := by decide +kernel
theorem dX3_look_88 : decode cX3_look 88 = .ok (.iconst 3, 1) := by decide +kernel
theorem dX3_look_89 : decode cX3_look 89 = .ok (.invokevirtual 89, 3) := by decide +kernel
theorem dX3_look_92 : decode cX3_look 92 = .ok (.ifCond .ne 4, 3) := by decide +kernel
theorem dX3_look_95 : decode cX3_look 95 = .ok (.return_, 1) := by decide +kernel
theorem dX3_look_96 : decode cX3_look 96 = .ok (.aload_n 0, 1) := by decide +kernel
theorem dX3_look_97 : decode cX3_look 97 = .ok (.iload_n 1, 1) := by decide +kernel
theorem dX3_look_98 : decode cX3_look 98 = .ok (.iconst 5, 1) := by decide +kernel
theorem dX3_look_99 : decode cX3_look 99 = .ok (.iload 5, 2) := by decide +kernel
theorem dX3_look_101 : decode cX3_look 101 = .ok (.invokevirtual 102, 3) := by decide +kernel
theorem dX3_look_104 : decode cX3_look 104 = .ok (.aload_n 0, 1) := by decide +kernel
theorem dX3_look_105 : decode cX3_look 105 = .ok (.iload_n 1, 1) := by decide +kernel
theorem dX3_look_106 : decode cX3_look 106 = .ok (.bipush 7, 2) := by decide +kernel
theorem dX3_look_108 : decode cX3_look 108 = .ok (.aload_n 0, 1) := by decide +kernel
theorem dX3_look_109 : decode cX3_look 109 = .ok (.iload_n 1, 1) := by decide +kernel
theorem dX3_look_110 : decode cX3_look 110 = .ok (.iload 5, 2) := by decide +kernel
theorem dX3_look_112 : decode cX3_look 112 = .ok (.invokevirtual 130, 3) := by decide +kernel
theorem dX3_look_115 : decode cX3_look 115 = .ok (.invokevirtual 102, 3) := by decide +kernel
theorem dX3_look_118 : decode cX3_look 118 = .ok (.aload_n 0, 1) := by decide +kernel
theorem dX3_look_119 : decode cX3_look 119 = .ok (.iload_n 1, 1) := by decide +kernel
theorem dX3_look_120 : decode cX3_look 120 = .ok (.bipush 6, 2) := by decide +kernel
theorem dX3_look_122 : decode cX3_look 122 = .ok (.aload_n 0, 1) := by decide +kernel
theorem dX3_look_123 : decode cX3_look 123 = .ok (.aload_n 0, 1) := by decide +kernel
theorem dX3_look_124 : decode cX3_look 124 = .ok (.iload_n 1, 1) := by decide +kernel
theorem dX3_look_125 : decode cX3_look 125 = .ok (.iconst 1, 1) := by decide +kernel
theorem dX3_look_126 : decode cX3_look 126 = .ok (.invokevirtual 99, 3) := by decide +kernel
theorem dX3_look_129 : decode cX3_look 129 = .ok (.aload_n 0, 1) := by decide +kernel
theorem dX3_look_130 : decode cX3_look 130 = .ok (.iload_n 1, 1) := by decide +kernel
theorem dX3_look_131 : decode cX3_look 131 = .ok (.bipush 7, 2) := by decide +kernel
theorem dX3_look_133 : decode cX3_look 133 = .ok (.invokevirtual 99, 3) := by decide +kernel
theorem dX3_look_136 : decode cX3_look 136 = .ok (.invokevirtual 105, 3) := by decide +kernel
theorem dX3_look_139 : decode cX3_look 139 = .ok (.iconst 3, 1) := by decide +kernel
theorem dX3_look_140 : decode cX3_look 140 = .ok (.iadd, 1) := by decide +kernel
theorem dX3_look_141 : decode cX3_look 141 = .ok (.invokevirtual 102, 3) := by decide +kernel
theorem dX3_look_144 : decode cX3_look 144 = .ok (.aload_n 0, 1) := by decide +kernel
theorem dX3_look_145 : decode cX3_look 145 = .ok (.iload_n 1, 1) := by decide +kernel
theorem dX3_look_146 : decode cX3_look 146 = .ok (.bipush 8, 2) := by decide +kernel
theorem dX3_look_148 : decode cX3_look 148 = .ok (.iload 4, 2) := by decide +kernel
theorem dX3_look_150 : decode cX3_look 150 = .ok (.invokevirtual 102, 3) := by decide +kernel
theorem dX3_look_153 : decode cX3_look 153 = .ok (.return_, 1) := by decide +kernel
theorem dX3_look_154 : decode cX3_look 154 = .ok (.iinc 3 1, 3) := by decide +kernel
theorem dX3_look_157 : decode cX3_look 157 = .ok (.goto (-148), 3) := by decide +kernel
theorem dX3_look_160 : decode cX3_look 160 = .ok (.return_, 1) := by decide +kernel
set_option maxRecDepth 20000 in
theorem ggX3_goOn_X3_pe : GoodIn wsX3_goOn wsX3_pe := goodIn_r _ [9, 10, 48, 49, 50, 51, 52, 53, 54, 55, 56, 57, 58, 59, 60] (by decide +kernel) (by decide +kernel)
set_option maxRecDepth 20000 in
theorem gX3_goOn_X3_pe : GoodIn wsX3_goOn (wsV RX3 99 RX3 yX3_pe wsX3_pe) := goodIn_app (goodIn_of _ (by decide +kernel)) ggX3_goOn_X3_pe
set_option maxRecDepth 20000 in
theorem ggX3_goOn_X3_look : GoodIn wsX3_goOn wsX3_look := goodIn_r _ [14, 15, 5, 6, 7, 8, 9, 10, 16, 17, 18, 19, 20, 21, 22, 23, 24, 25, 26, 27, 28, 29, 30, 31, 32, 33, 34, 35, 36, 37, 38, 39, 1, 2, 3, 4, 40, 41, 42, 43, 48, 49, 50, 51, 52, 53, 54, 55, 56, 57, 58, 59, 60] (by decide +kernel) (by decide +kernel)
set_option maxRecDepth 20000 in
theorem gX3_goOn_X3_look : GoodIn wsX3_goOn (wsV RX3 133 RX3 yX3_look wsX3_look) := goodIn_app (goodIn_of _ (by decide +kernel)) ggX3_goOn_X3_look
set_option maxRecDepth 20000 in
theorem ggX3_goOn_X3_put : GoodIn wsX3_goOn wsX3_put := goodIn_r _ [43, 10, 48, 49, 50, 51, 52, 53, 54, 55, 56, 57, 58, 59, 60] (by decide +kernel) (by decide +kernel)
set_option maxRecDepth 20000 in
theorem gX3_goOn_X3_put : GoodIn wsX3_goOn (wsV RX3 102 RX3 yX3_put wsX3_put) := goodIn_app (goodIn_of _ (by decide +kernel)) ggX3_goOn_X3_put
set_option maxRecDepth 20000 in
theorem ggX3_goOn_X3_la : GoodIn wsX3_goOn wsX3_la := goodIn_r _ [19, 20, 48, 49, 50, 51, 52, 53, 54, 55, 56, 57, 58, 59, 60] (by decide +kernel) (by decide +kernel)
set_option maxRecDepth 20000 in
theorem gX3_goOn_X3_la : GoodIn wsX3_goOn (wsV RX3 89 RX3 yX3_la wsX3_la) := goodIn_app (goodIn_of _ (by decide +kernel)) ggX3_goOn_X3_la
set_option maxRecDepth 20000 in
theorem ggX3_goOn_X3_setLamp : GoodIn wsX3_goOn wsX3_setLamp := goodIn_r _ [47, 20, 48, 49, 50, 51, 52, 53, 54, 55, 56, 57, 58, 59, 60] (by decide +kernel) (by decide +kernel)
set_option maxRecDepth 20000 in
theorem gX3_goOn_X3_setLamp : GoodIn wsX3_goOn (wsV RX3 92 RX3 yX3_setLamp wsX3_setLamp) := goodIn_app (goodIn_of _ (by decide +kernel)) ggX3_goOn_X3_setLamp
theorem dX3_goOn_0 : decode cX3_goOn 0 = .ok (.aload_n 0, 1) := by decide +kernel
theorem dX3_goOn_1 : decode cX3_goOn 1 = .ok (.iload_n 1, 1) := by decide +kernel
theorem dX3_goOn_2 : decode cX3_goOn 2 = .ok (.iconst 5, 1) := by decide +kernel
theorem dX3_goOn_3 : decode cX3_goOn 3 = .ok (.invokevirtual 99, 3) := by decide +kernel
theorem dX3_goOn_6 : decode cX3_goOn 6 = .ok (.iconst (-1), 1) := by decide +kernel
theorem dX3_goOn_7 : decode cX3_goOn 7 = .ok (.if_icmp .ne 8, 3) := by decide +kernel
theorem dX3_goOn_10 : decode cX3_goOn 10 = .ok (.aload_n 0, 1) := by decide +kernel
theorem dX3_goOn_11 : decode cX3_goOn 11 = .ok (.iload_n 1, 1) := by decide +kernel
theorem dX3_goOn_12 : decode cX3_goOn 12 = .ok (.invokevirtual 133, 3) := by decide +kernel
theorem dX3_goOn_15 : decode cX3_goOn 15 = .ok (.aload_n 0, 1) := by decide +kernel
theorem dX3_goOn_16 : decode cX3_goOn 16 = .ok (.iload_n 1, 1) := by decide +kernel
theorem dX3_goOn_17 : decode cX3_goOn 17 = .ok (.iconst 5, 1) := by decide +kernel
theorem dX3_goOn_18 : decode cX3_goOn 18 = .ok (.invokevirtual 99, 3) := by decide +kernel
theorem dX3_goOn_21 : decode cX3_goOn 21 = .ok (.istore_n 2, 1) := by decide +kernel
theorem dX3_goOn_22 : decode cX3_goOn 22 = .ok (.iload_n 2, 1) := by decide +kernel
theorem dX3_goOn_23 : decode cX3_goOn 23 = .ok (.iconst (-1), 1) := by decide +kernel
theorem dX3_goOn_24 : decode cX3_goOn 24 = .ok (.if_icmp .ne 5, 3) := by decide +kernel
theorem dX3_goOn_27 : decode cX3_goOn 27 = .ok (.iconst (-1), 1) := by decide +kernel
theorem dX3_goOn_28 : decode cX3_goOn 28 = .ok (.ireturn, 1) := by decide +kernel
theorem dX3_goOn_29 : decode cX3_goOn 29 = .ok (.aload_n 0, 1) := by decide +kernel
theorem dX3_goOn_30 : decode cX3_goOn 30 = .ok (.iload_n 1, 1) := by decide +kernel
theorem dX3_goOn_31 : decode cX3_goOn 31 = .ok (.bipush 6, 2) := by decide +kernel
theorem dX3_goOn_33 : decode cX3_goOn 33 = .ok (.aload_n 0, 1) := by decide +kernel
theorem dX3_goOn_34 : decode cX3_goOn 34 = .ok (.iload_n 1, 1) := by decide +kernel
theorem dX3_goOn_35 : decode cX3_goOn 35 = .ok (.bipush 6, 2) := by decide +kernel
theorem dX3_goOn_37 : decode cX3_goOn 37 = .ok (.invokevirtual 99, 3) := by decide +kernel
theorem dX3_goOn_40 : decode cX3_goOn 40 = .ok (.iconst 1, 1) := by decide +kernel
theorem dX3_goOn_41 : decode cX3_goOn 41 = .ok (.isub, 1) := by decide +kernel
theorem dX3_goOn_42 : decode cX3_goOn 42 = .ok (.invokevirtual 102, 3) := by decide +kernel
theorem dX3_goOn_45 : decode cX3_goOn 45 = .ok (.aload_n 0, 1) := by decide +kernel
theorem dX3_goOn_46 : decode cX3_goOn 46 = .ok (.iload_n 1, 1) := by decide +kernel
theorem dX3_goOn_47 : decode cX3_goOn 47 = .ok (.bipush 6, 2) := by decide +kernel
theorem dX3_goOn_49 : decode cX3_goOn 49 = .ok (.invokevirtual 99, 3) := by decide +kernel
theorem dX3_goOn_52 : decode cX3_goOn 52 = .ok (.ifCond .le 5, 3) := by decide +kernel
theorem dX3_goOn_55 : decode cX3_goOn 55 = .ok (.iconst (-1), 1) := by decide +kernel
theorem dX3_goOn_56 : decode cX3_goOn 56 = .ok (.ireturn, 1) := by decide +kernel
theorem dX3_goOn_57 : decode cX3_goOn 57 = .ok (.aload_n 0, 1) := by decide +kernel
theorem dX3_goOn_58 : decode cX3_goOn 58 = .ok (.iload_n 1, 1) := by decide +kernel
theorem dX3_goOn_59 : decode cX3_goOn 59 = .ok (.iconst 1, 1) := by decide +kernel
theorem dX3_goOn_60 : decode cX3_goOn 60 = .ok (.aload_n 0, 1) := by decide +kernel
theorem dX3_goOn_61 : decode cX3_goOn 61 = .ok (.iload_n 1, 1) := by decide +kernel
theorem dX3_goOn_62 : decode cX3_goOn 62 = .ok (.bipush 7, 2) := by decide +kernel
theorem dX3_goOn_64 : decode cX3_goOn 64 = .ok (.invokevirtual 99, 3) := by decide +kernel
theorem dX3_goOn_67 : decode cX3_goOn 67 = .ok (.invokevirtual 102, 3) := by decide +kernel
theorem dX3_goOn_70 : decode cX3_goOn 70 = .ok (.aload_n 0, 1) := by decide +kernel
theorem dX3_goOn_71 : decode cX3_goOn 71 = .ok (.iload_n 1, 1) := by decide +kernel
theorem dX3_goOn_72 : decode cX3_goOn 72 = .ok (.iconst 5, 1) := by decide +kernel
theorem dX3_goOn_73 : decode cX3_goOn 73 = .ok (.iconst (-1), 1) := by decide +kernel
theorem dX3_goOn_74 : decode cX3_goOn 74 = .ok (.invokevirtual 102, 3) := by decide +kernel
theorem dX3_goOn_77 : decode cX3_goOn 77 = .ok (.sipush 300, 3) := by decide +kernel
theorem dX3_goOn_80 : decode cX3_goOn 80 = .ok (.aload_n 0, 1) := by decide +kernel
theorem dX3_goOn_81 : decode cX3_goOn 81 = .ok (.iload_n 2, 1) := by decide +kernel
theorem dX3_goOn_82 : decode cX3_goOn 82 = .ok (.iconst 3, 1) := by decide +kernel
theorem dX3_goOn_83 : decode cX3_goOn 83 = .ok (.invokevirtual 89, 3) := by decide +kernel
theorem dX3_goOn_86 : decode cX3_goOn 86 = .ok (.isub, 1) := by decide +kernel
theorem dX3_goOn_87 : decode cX3_goOn 87 = .ok (.aload_n 0, 1) := by decide +kernel
theorem dX3_goOn_88 : decode cX3_goOn 88 = .ok (.iload_n 1, 1) := by decide +kernel
theorem dX3_goOn_89 : decode cX3_goOn 89 = .ok (.iconst 3, 1) := by decide +kernel
theorem dX3_goOn_90 : decode cX3_goOn 90 = .ok (.invokevirtual 99, 3) := by decide +kernel
theorem dX3_goOn_93 : decode cX3_goOn 93 = .ok (.invokestatic 63, 3) := by decide +kernel
theorem dX3_goOn_96 : decode cX3_goOn 96 = .ok (.istore_n 3, 1) := by decide +kernel
theorem dX3_goOn_97 : decode cX3_goOn 97 = .ok (.aload_n 0, 1) := by decide +kernel
theorem dX3_goOn_98 : decode cX3_goOn 98 = .ok (.iload_n 1, 1) := by decide +kernel
theorem dX3_goOn_99 : decode cX3_goOn 99 = .ok (.iconst 3, 1) := by decide +kernel
theorem dX3_goOn_100 : decode cX3_goOn 100 = .ok (.aload_n 0, 1) := by decide +kernel
theorem dX3_goOn_101 : decode cX3_goOn 101 = .ok (.iload_n 1, 1) := by decide +kernel
theorem dX3_goOn_102 : decode cX3_goOn 102 = .ok (.iconst 3, 1) := by decide +kernel
theorem dX3_goOn_103 : decode cX3_goOn 103 = .ok (.invokevirtual 99, 3) := by decide +kernel
theorem dX3_goOn_106 : decode cX3_goOn 106 = .ok (.iload_n 3, 1) := by decide +kernel
theorem dX3_goOn_107 : decode cX3_goOn 107 = .ok (.isub, 1) := by decide +kernel
theorem dX3_goOn_108 : decode cX3_goOn 108 = .ok (.invokevirtual 102, 3) := by decide +kernel
theorem dX3_goOn_111 : decode cX3_goOn 111 = .ok (.aload_n 0, 1) := by decide +kernel
theorem dX3_goOn_112 : decode cX3_goOn 112 = .ok (.iload_n 2, 1) := by decide +kernel
theorem dX3_goOn_113 : decode cX3_goOn 113 = .ok (.iconst 3, 1) := by decide +kernel
theorem dX3_goOn_114 : decode cX3_goOn 114 = .ok (.aload_n 0, 1) := by decide +kernel
theorem dX3_goOn_115 : decode cX3_goOn 115 = .ok (.iload_n 2, 1) := by decide +kernel
theorem dX3_goOn_116 : decode cX3_goOn 116 = .ok (.iconst 3, 1) := by decide +kernel
theorem dX3_goOn_117 : decode cX3_goOn 117 = .ok (.invokevirtual 89, 3) := by decide +kernel
theorem dX3_goOn_120 : decode cX3_goOn 120 = .ok (.iload_n 3, 1) := by decide +kernel
theorem dX3_goOn_121 : decode cX3_goOn 121 = .ok (.iadd, 1) := by decide +kernel
theorem dX3_goOn_122 : decode cX3_goOn 122 = .ok (.invokevirtual 92, 3) := by decide +kernel
theorem dX3_goOn_125 : decode cX3_goOn 125 = .ok (.aload_n 0, 1) := by decide +kernel
theorem dX3_goOn_126 : decode cX3_goOn 126 = .ok (.iload_n 2, 1) := by decide +kernel
theorem dX3_goOn_127 : decode cX3_goOn 127 = .ok (.iconst 4, 1) := by decide +kernel
theorem dX3_goOn_128 : decode cX3_goOn 128 = .ok (.iconst 0, 1) := by decide +kernel
theorem dX3_goOn_129 : decode cX3_goOn 129 = .ok (.invokevirtual 92, 3) := by decide +kernel
theorem dX3_goOn_132 : decode cX3_goOn 132 = .ok (.aload_n 0, 1) := by decide +kernel
theorem dX3_goOn_133 : decode cX3_goOn 133 = .ok (.iload_n 2, 1) := by decide +kernel
theorem dX3_goOn_134 : decode cX3_goOn 134 = .ok (.iconst 3, 1) := by decide +kernel
theorem dX3_goOn_135 : decode cX3_goOn 135 = .ok (.invokevirtual 89, 3) := by decide +kernel
theorem dX3_goOn_138 : decode cX3_goOn 138 = .ok (.ifCond .le 42, 3) := by decide +kernel
theorem dX3_goOn_141 : decode cX3_goOn 141 = .ok (.aload_n 0, 1) := by decide +kernel
theorem dX3_goOn_142 : decode cX3_goOn 142 = .ok (.iload_n 2, 1) := by decide +kernel
theorem dX3_goOn_143 : decode cX3_goOn 143 = .ok (.iconst 5, 1) := by decide +kernel
theorem dX3_goOn_144 : decode cX3_goOn 144 = .ok (.iconst 1, 1) := by decide +kernel
theorem dX3_goOn_145 : decode cX3_goOn 145 = .ok (.invokevirtual 92, 3) := by decide +kernel
theorem dX3_goOn_148 : decode cX3_goOn 148 = .ok (.aload_n 0, 1) := by decide +kernel
theorem dX3_goOn_149 : decode cX3_goOn 149 = .ok (.iload_n 2, 1) := by decide +kernel
theorem dX3_goOn_150 : decode cX3_goOn 150 = .ok (.bipush 6, 2) := by decide +kernel
theorem dX3_goOn_152 : decode cX3_goOn 152 = .ok (.aload_n 0, 1) := by decide +kernel
theorem dX3_goOn_153 : decode cX3_goOn 153 = .ok (.iload_n 2, 1) := by decide +kernel
theorem dX3_goOn_154 : decode cX3_goOn 154 = .ok (.bipush 6, 2) := by decide +kernel
theorem dX3_goOn_156 : decode cX3_goOn 156 = .ok (.invokevirtual 89, 3) := by decide +kernel
theorem dX3_goOn_159 : decode cX3_goOn 159 = .ok (.iconst 1, 1) := by decide +kernel
theorem dX3_goOn_160 : decode cX3_goOn 160 = .ok (.iadd, 1) := by decide +kernel
theorem dX3_goOn_161 : decode cX3_goOn 161 = .ok (.invokevirtual 92, 3) := by decide +kernel
theorem dX3_goOn_164 : decode cX3_goOn 164 = .ok (.aload_n 0, 1) := by decide +kernel
theorem dX3_goOn_165 : decode cX3_goOn 165 = .ok (.iload_n 1, 1) := by decide +kernel
theorem dX3_goOn_166 : decode cX3_goOn 166 = .ok (.bipush 9, 2) := by decide +kernel
theorem dX3_goOn_168 : decode cX3_goOn 168 = .ok (.aload_n 0, 1) := by decide +kernel
theorem dX3_goOn_169 : decode cX3_goOn 169 = .ok (.iload_n 1, 1) := by decide +kernel
theorem dX3_goOn_170 : decode cX3_goOn 170 = .ok (.bipush 9, 2) := by decide +kernel
theorem dX3_goOn_172 : decode cX3_goOn 172 = .ok (.invokevirtual 99, 3) := by decide +kernel
theorem dX3_goOn_175 : decode cX3_goOn 175 = .ok (.iconst 1, 1) := by decide +kernel
theorem dX3_goOn_176 : decode cX3_goOn 176 = .ok (.iadd, 1) := by decide +kernel
theorem dX3_goOn_177 : decode cX3_goOn 177 = .ok (.invokevirtual 102, 3) := by decide +kernel
theorem dX3_goOn_180 : decode cX3_goOn 180 = .ok (.iload_n 2, 1) := by decide +kernel
theorem dX3_goOn_181 : decode cX3_goOn 181 = .ok (.ireturn, 1) := by decide +kernel
set_option maxRecDepth 20000 in
theorem ggX3_gust_X3_la : GoodIn wsX3_gust wsX3_la := goodIn_r _ [10, 11, 17, 18, 19, 20, 21, 22, 23, 24, 25, 26, 27, 28, 29] (by decide +kernel) (by decide +kernel)
set_option maxRecDepth 20000 in
theorem gX3_gust_X3_la : GoodIn wsX3_gust (wsV RX3 89 RX3 yX3_la wsX3_la) := goodIn_app (goodIn_of _ (by decide +kernel)) ggX3_gust_X3_la
set_option maxRecDepth 20000 in
theorem ggX3_gust_X3_ro : GoodIn wsX3_gust wsX3_ro := goodIn_r _ [15, 16, 17, 18, 19, 20, 21, 22, 23, 24, 25, 26, 27, 28, 29] (by decide +kernel) (by decide +kernel)
set_option maxRecDepth 20000 in
theorem gX3_gust_X3_ro : GoodIn wsX3_gust (wsV RX3 54 RX3 yX3_ro wsX3_ro) := goodIn_app (goodIn_of _ (by decide +kernel)) ggX3_gust_X3_ro
theorem dX3_gust_0 : decode cX3_gust 0 = .ok (.iload_n 2, 1) := by decide +kernel
theorem dX3_gust_1 : decode cX3_gust 1 = .ok (.aload_n 0, 1) := by decide +kernel
theorem dX3_gust_2 : decode cX3_gust 2 = .ok (.getfield 9, 3) := by decide +kernel
theorem dX3_gust_5 : decode cX3_gust 5 = .ok (.aload_n 0, 1) := by decide +kernel
theorem dX3_gust_6 : decode cX3_gust 6 = .ok (.aload_n 0, 1) := by decide +kernel
theorem dX3_gust_7 : decode cX3_gust 7 = .ok (.iload_n 1, 1) := by decide +kernel
theorem dX3_gust_8 : decode cX3_gust 8 = .ok (.iconst 0, 1) := by decide +kernel
theorem dX3_gust_9 : decode cX3_gust 9 = .ok (.invokevirtual 89, 3) := by decide +kernel
theorem dX3_gust_12 : decode cX3_gust 12 = .ok (.iconst 0, 1) := by decide +kernel
theorem dX3_gust_13 : decode cX3_gust 13 = .ok (.invokevirtual 54, 3) := by decide +kernel
theorem dX3_gust_16 : decode cX3_gust 16 = .ok (.iaload, 1) := by decide +kernel
theorem dX3_gust_17 : decode cX3_gust 17 = .ok (.aload_n 0, 1) := by decide +kernel
theorem dX3_gust_18 : decode cX3_gust 18 = .ok (.getfield 9, 3) := by decide +kernel
theorem dX3_gust_21 : decode cX3_gust 21 = .ok (.aload_n 0, 1) := by decide +kernel
theorem dX3_gust_22 : decode cX3_gust 22 = .ok (.aload_n 0, 1) := by decide +kernel
theorem dX3_gust_23 : decode cX3_gust 23 = .ok (.iload_n 1, 1) := by decide +kernel
theorem dX3_gust_24 : decode cX3_gust 24 = .ok (.iconst 0, 1) := by decide +kernel
theorem dX3_gust_25 : decode cX3_gust 25 = .ok (.invokevirtual 89, 3) := by decide +kernel
theorem dX3_gust_28 : decode cX3_gust 28 = .ok (.iconst 1, 1) := by decide +kernel
theorem dX3_gust_29 : decode cX3_gust 29 = .ok (.invokevirtual 54, 3) := by decide +kernel
theorem dX3_gust_32 : decode cX3_gust 32 = .ok (.iaload, 1) := by decide +kernel
theorem dX3_gust_33 : decode cX3_gust 33 = .ok (.invokestatic 58, 3) := by decide +kernel
theorem dX3_gust_36 : decode cX3_gust 36 = .ok (.bipush 10, 2) := by decide +kernel
theorem dX3_gust_38 : decode cX3_gust 38 = .ok (.idiv, 1) := by decide +kernel
theorem dX3_gust_39 : decode cX3_gust 39 = .ok (.iadd, 1) := by decide +kernel
theorem dX3_gust_40 : decode cX3_gust 40 = .ok (.ireturn, 1) := by decide +kernel
set_option maxRecDepth 20000 in
theorem ggX3_burn_X3_la : GoodIn wsX3_burn wsX3_la := goodIn_r _ [11, 12, 30, 31, 32, 33, 34, 35, 36, 37, 38, 39, 40, 41, 42] (by decide +kernel) (by decide +kernel)
set_option maxRecDepth 20000 in
theorem gX3_burn_X3_la : GoodIn wsX3_burn (wsV RX3 89 RX3 yX3_la wsX3_la) := goodIn_app (goodIn_of _ (by decide +kernel)) ggX3_burn_X3_la
set_option maxRecDepth 20000 in
theorem ggX3_burn_X3_setLamp : GoodIn wsX3_burn wsX3_setLamp := goodIn_r _ [16, 12, 30, 31, 32, 33, 34, 35, 36, 37, 38, 39, 40, 41, 42] (by decide +kernel) (by decide +kernel)
set_option maxRecDepth 20000 in
theorem gX3_burn_X3_setLamp : GoodIn wsX3_burn (wsV RX3 92 RX3 yX3_setLamp wsX3_setLamp) := goodIn_app (goodIn_of _ (by decide +kernel)) ggX3_burn_X3_setLamp
set_option maxRecDepth 20000 in
theorem ggX3_burn_X3_gust : GoodIn wsX3_burn wsX3_gust := goodIn_r _ [20, 21, 22, 23, 3, 24, 7, 8, 9, 10, 11, 12, 25, 26, 27, 28, 29, 30, 31, 32, 33, 34, 35, 36, 37, 38, 39, 40, 41, 42] (by decide +kernel) (by decide +kernel)
set_option maxRecDepth 20000 in
theorem gX3_burn_X3_gust : GoodIn wsX3_burn (wsV RX3 137 RX3 yX3_gust wsX3_gust) := goodIn_app (goodIn_of _ (by decide +kernel)) ggX3_burn_X3_gust
theorem dX3_burn_0 : decode cX3_burn 0 = .ok (.aload_n 0, 1) := by decide +kernel
theorem dX3_burn_1 : decode cX3_burn 1 = .ok (.iload_n 1, 1) := by decide +kernel
theorem dX3_burn_2 : decode cX3_burn 2 = .ok (.iconst 5, 1) := by decide +kernel
theorem dX3_burn_3 : decode cX3_burn 3 = .ok (.invokevirtual 89, 3) := by decide +kernel
theorem dX3_burn_6 : decode cX3_burn 6 = .ok (.ifCond .ne 4, 3) := by decide +kernel
theorem dX3_burn_9 : decode cX3_burn 9 = .ok (.return_, 1) := by decide +kernel
theorem dX3_burn_10 : decode cX3_burn 10 = .ok (.aload_n 0, 1) := by decide +kernel
theorem dX3_burn_11 : decode cX3_burn 11 = .ok (.iload_n 1, 1) := by decide +kernel
theorem dX3_burn_12 : decode cX3_burn 12 = .ok (.iconst 3, 1) := by decide +kernel
theorem dX3_burn_13 : decode cX3_burn 13 = .ok (.invokevirtual 89, 3) := by decide +kernel
theorem dX3_burn_16 : decode cX3_burn 16 = .ok (.aload_n 0, 1) := by decide +kernel
theorem dX3_burn_17 : decode cX3_burn 17 = .ok (.iload_n 1, 1) := by decide +kernel
theorem dX3_burn_18 : decode cX3_burn 18 = .ok (.iconst 4, 1) := by decide +kernel
theorem dX3_burn_19 : decode cX3_burn 19 = .ok (.invokevirtual 89, 3) := by decide +kernel
theorem dX3_burn_22 : decode cX3_burn 22 = .ok (.iconst 5, 1) := by decide +kernel
theorem dX3_burn_23 : decode cX3_burn 23 = .ok (.if_icmp .lt 7, 3) := by decide +kernel
theorem dX3_burn_26 : decode cX3_burn 26 = .ok (.iconst 2, 1) := by decide +kernel
theorem dX3_burn_27 : decode cX3_burn 27 = .ok (.goto 4, 3) := by decide +kernel
theorem dX3_burn_30 : decode cX3_burn 30 = .ok (.iconst 1, 1) := by decide +kernel
theorem dX3_burn_31 : decode cX3_burn 31 = .ok (.invokestatic 63, 3) := by decide +kernel
theorem dX3_burn_34 : decode cX3_burn 34 = .ok (.istore_n 2, 1) := by decide +kernel
theorem dX3_burn_35 : decode cX3_burn 35 = .ok (.aload_n 0, 1) := by decide +kernel
theorem dX3_burn_36 : decode cX3_burn 36 = .ok (.iload_n 1, 1) := by decide +kernel
theorem dX3_burn_37 : decode cX3_burn 37 = .ok (.iconst 3, 1) := by decide +kernel
theorem dX3_burn_38 : decode cX3_burn 38 = .ok (.aload_n 0, 1) := by decide +kernel
theorem dX3_burn_39 : decode cX3_burn 39 = .ok (.iload_n 1, 1) := by decide +kernel
theorem dX3_burn_40 : decode cX3_burn 40 = .ok (.iconst 3, 1) := by decide +kernel
theorem dX3_burn_41 : decode cX3_burn 41 = .ok (.invokevirtual 89, 3) := by decide +kernel
theorem dX3_burn_44 : decode cX3_burn 44 = .ok (.iload_n 2, 1) := by decide +kernel
theorem dX3_burn_45 : decode cX3_burn 45 = .ok (.isub, 1) := by decide +kernel
theorem dX3_burn_46 : decode cX3_burn 46 = .ok (.invokevirtual 92, 3) := by decide +kernel
theorem dX3_burn_49 : decode cX3_burn 49 = .ok (.aload_n 0, 1) := by decide +kernel
theorem dX3_burn_50 : decode cX3_burn 50 = .ok (.getfield 31, 3) := by decide +kernel
theorem dX3_burn_53 : decode cX3_burn 53 = .ok (.iconst 2, 1) := by decide +kernel
theorem dX3_burn_54 : decode cX3_burn 54 = .ok (.dup2, 1) := by decide +kernel
theorem dX3_burn_55 : decode cX3_burn 55 = .ok (.iaload, 1) := by decide +kernel
theorem dX3_burn_56 : decode cX3_burn 56 = .ok (.iload_n 2, 1) := by decide +kernel
theorem dX3_burn_57 : decode cX3_burn 57 = .ok (.iadd, 1) := by decide +kernel
theorem dX3_burn_58 : decode cX3_burn 58 = .ok (.iastore, 1) := by decide +kernel
theorem dX3_burn_59 : decode cX3_burn 59 = .ok (.aload_n 0, 1) := by decide +kernel
theorem dX3_burn_60 : decode cX3_burn 60 = .ok (.iload_n 1, 1) := by decide +kernel
theorem dX3_burn_61 : decode cX3_burn 61 = .ok (.iconst 3, 1) := by decide +kernel
theorem dX3_burn_62 : decode cX3_burn 62 = .ok (.invokevirtual 89, 3) := by decide +kernel
theorem dX3_burn_65 : decode cX3_burn 65 = .ok (.ifCond .ne 13, 3) := by decide +kernel
theorem dX3_burn_68 : decode cX3_burn 68 = .ok (.aload_n 0, 1) := by decide +kernel
theorem dX3_burn_69 : decode cX3_burn 69 = .ok (.iload_n 1, 1) := by decide +kernel
theorem dX3_burn_70 : decode cX3_burn 70 = .ok (.iconst 5, 1) := by decide +kernel
theorem dX3_burn_71 : decode cX3_burn 71 = .ok (.iconst 0, 1) := by decide +kernel
theorem dX3_burn_72 : decode cX3_burn 72 = .ok (.invokevirtual 92, 3) := by decide +kernel
theorem dX3_burn_75 : decode cX3_burn 75 = .ok (.goto 34, 3) := by decide +kernel
theorem dX3_burn_78 : decode cX3_burn 78 = .ok (.aload_n 0, 1) := by decide +kernel
theorem dX3_burn_79 : decode cX3_burn 79 = .ok (.getfield 31, 3) := by decide +kernel
theorem dX3_burn_82 : decode cX3_burn 82 = .ok (.iconst 0, 1) := by decide +kernel
theorem dX3_burn_83 : decode cX3_burn 83 = .ok (.iaload, 1) := by decide +kernel
theorem dX3_burn_84 : decode cX3_burn 84 = .ok (.bipush 30, 2) := by decide +kernel
theorem dX3_burn_86 : decode cX3_burn 86 = .ok (.irem, 1) := by decide +kernel
theorem dX3_burn_87 : decode cX3_burn 87 = .ok (.ifCond .ne 22, 3) := by decide +kernel
theorem dX3_burn_90 : decode cX3_burn 90 = .ok (.aload_n 0, 1) := by decide +kernel
theorem dX3_burn_91 : decode cX3_burn 91 = .ok (.iload_n 1, 1) := by decide +kernel
theorem dX3_burn_92 : decode cX3_burn 92 = .ok (.iconst 4, 1) := by decide +kernel
theorem dX3_burn_93 : decode cX3_burn 93 = .ok (.bipush 9, 2) := by decide +kernel
theorem dX3_burn_95 : decode cX3_burn 95 = .ok (.aload_n 0, 1) := by decide +kernel
theorem dX3_burn_96 : decode cX3_burn 96 = .ok (.iload_n 1, 1) := by decide +kernel
theorem dX3_burn_97 : decode cX3_burn 97 = .ok (.iconst 4, 1) := by decide +kernel
theorem dX3_burn_98 : decode cX3_burn 98 = .ok (.invokevirtual 89, 3) := by decide +kernel
theorem dX3_burn_101 : decode cX3_burn 101 = .ok (.iconst 1, 1) := by decide +kernel
theorem dX3_burn_102 : decode cX3_burn 102 = .ok (.iadd, 1) := by decide +kernel
theorem dX3_burn_103 : decode cX3_burn 103 = .ok (.invokestatic 63, 3) := by decide +kernel
theorem dX3_burn_106 : decode cX3_burn 106 = .ok (.invokevirtual 92, 3) := by decide +kernel
theorem dX3_burn_109 : decode cX3_burn 109 = .ok (.aload_n 0, 1) := by decide +kernel
theorem dX3_burn_110 : decode cX3_burn 110 = .ok (.iload_n 1, 1) := by decide +kernel
theorem dX3_burn_111 : decode cX3_burn 111 = .ok (.iconst 5, 1) := by decide +kernel
theorem dX3_burn_112 : decode cX3_burn 112 = .ok (.invokevirtual 89, 3) := by decide +kernel
theorem dX3_burn_115 : decode cX3_burn 115 = .ok (.ifCond .eq 45, 3) := by decide +kernel
theorem dX3_burn_118 : decode cX3_burn 118 = .ok (.aload_n 0, 1) := by decide +kernel
theorem dX3_burn_119 : decode cX3_burn 119 = .ok (.getfield 31, 3) := by decide +kernel
theorem dX3_burn_122 : decode cX3_burn 122 = .ok (.iconst 0, 1) := by decide +kernel
theorem dX3_burn_123 : decode cX3_burn 123 = .ok (.iaload, 1) := by decide +kernel
theorem dX3_burn_124 : decode cX3_burn 124 = .ok (.bipush 10, 2) := by decide +kernel
theorem dX3_burn_126 : decode cX3_burn 126 = .ok (.irem, 1) := by decide +kernel
theorem dX3_burn_127 : decode cX3_burn 127 = .ok (.ifCond .ne 33, 3) := by decide +kernel
theorem dX3_burn_130 : decode cX3_burn 130 = .ok (.aload_n 0, 1) := by decide +kernel
theorem dX3_burn_131 : decode cX3_burn 131 = .ok (.iload_n 1, 1) := by decide +kernel
theorem dX3_burn_132 : decode cX3_burn 132 = .ok (.aload_n 0, 1) := by decide +kernel
theorem dX3_burn_133 : decode cX3_burn 133 = .ok (.getfield 28, 3) := by decide +kernel
theorem dX3_burn_136 : decode cX3_burn 136 = .ok (.aload_n 0, 1) := by decide +kernel
theorem dX3_burn_137 : decode cX3_burn 137 = .ok (.getfield 31, 3) := by decide +kernel
theorem dX3_burn_140 : decode cX3_burn 140 = .ok (.iconst 0, 1) := by decide +kernel
theorem dX3_burn_141 : decode cX3_burn 141 = .ok (.iaload, 1) := by decide +kernel
theorem dX3_burn_142 : decode cX3_burn 142 = .ok (.bipush 60, 2) := by decide +kernel
theorem dX3_burn_144 : decode cX3_burn 144 = .ok (.idiv, 1) := by decide +kernel
theorem dX3_burn_145 : decode cX3_burn 145 = .ok (.iaload, 1) := by decide +kernel
theorem dX3_burn_146 : decode cX3_burn 146 = .ok (.invokevirtual 137, 3) := by decide +kernel
theorem dX3_burn_149 : decode cX3_burn 149 = .ok (.aload_n 0, 1) := by decide +kernel
theorem dX3_burn_150 : decode cX3_burn 150 = .ok (.iload_n 1, 1) := by decide +kernel
theorem dX3_burn_151 : decode cX3_burn 151 = .ok (.iconst 2, 1) := by decide +kernel
theorem dX3_burn_152 : decode cX3_burn 152 = .ok (.invokevirtual 89, 3) := by decide +kernel
theorem dX3_burn_155 : decode cX3_burn 155 = .ok (.iconst 4, 1) := by decide +kernel
theorem dX3_burn_156 : decode cX3_burn 156 = .ok (.iadd, 1) := by decide +kernel
theorem dX3_burn_157 : decode cX3_burn 157 = .ok (.if_icmp .gt 4, 3) := by decide +kernel
theorem dX3_burn_160 : decode cX3_burn 160 = .ok (.return_, 1) := by decide +kernel
theorem dX3_burn_161 : decode cX3_burn 161 = .ok (.aload_n 0, 1) := by decide +kernel
theorem dX3_burn_162 : decode cX3_burn 162 = .ok (.iload_n 1, 1) := by decide +kernel
theorem dX3_burn_163 : decode cX3_burn 163 = .ok (.iconst 5, 1) := by decide +kernel
theorem dX3_burn_164 : decode cX3_burn 164 = .ok (.iconst 0, 1) := by decide +kernel
theorem dX3_burn_165 : decode cX3_burn 165 = .ok (.invokevirtual 92, 3) := by decide +kernel
theorem dX3_burn_168 : decode cX3_burn 168 = .ok (.aload_n 0, 1) := by decide +kernel
theorem dX3_burn_169 : decode cX3_burn 169 = .ok (.iload_n 1, 1) := by decide +kernel
theorem dX3_burn_170 : decode cX3_burn 170 = .ok (.bipush 7, 2) := by decide +kernel
theorem dX3_burn_172 : decode cX3_burn 172 = .ok (.aload_n 0, 1) := by decide +kernel
theorem dX3_burn_173 : decode cX3_burn 173 = .ok (.iload_n 1, 1) := by decide +kernel
theorem dX3_burn_174 : decode cX3_burn 174 = .ok (.bipush 7, 2) := by decide +kernel
theorem dX3_burn_176 : decode cX3_burn 176 = .ok (.invokevirtual 89, 3) := by decide +kernel
theorem dX3_burn_179 : decode cX3_burn 179 = .ok (.iconst 1, 1) := by decide +kernel
theorem dX3_burn_180 : decode cX3_burn 180 = .ok (.iadd, 1) := by decide +kernel
theorem dX3_burn_181 : decode cX3_burn 181 = .ok (.invokevirtual 92, 3) := by decide +kernel
theorem dX3_burn_184 : decode cX3_burn 184 = .ok (.return_, 1) := by decide +kernel
theorem dX3_isOver_0 : decode cX3_isOver 0 = .ok (.aload_n 0, 1) := by decide +kernel
theorem dX3_isOver_1 : decode cX3_isOver 1 = .ok (.getfield 31, 3) := by decide +kernel
theorem dX3_isOver_4 : decode cX3_isOver 4 = .ok (.iconst 0, 1) := by decide +kernel
theorem dX3_isOver_5 : decode cX3_isOver 5 = .ok (.iaload, 1) := by decide +kernel
theorem dX3_isOver_6 : decode cX3_isOver 6 = .ok (.sipush 600, 3) := by decide +kernel
theorem dX3_isOver_9 : decode cX3_isOver 9 = .ok (.if_icmp .ne 7, 3) := by decide +kernel
theorem dX3_isOver_12 : decode cX3_isOver 12 = .ok (.iconst 1, 1) := by decide +kernel
theorem dX3_isOver_13 : decode cX3_isOver 13 = .ok (.goto 4, 3) := by decide +kernel
theorem dX3_isOver_16 : decode cX3_isOver 16 = .ok (.iconst 0, 1) := by decide +kernel
theorem dX3_isOver_17 : decode cX3_isOver 17 = .ok (.ireturn, 1) := by decide +kernel
set_option maxRecDepth 20000 in
theorem ggX3_minuteOn_X3_goOn : GoodIn wsX3_minuteOn wsX3_goOn := goodIn_r _ [8, 9, 10, 11, 12, 13, 14, 15, 7, 16, 17, 18, 19, 20, 21, 22, 23, 24, 25, 26, 27, 28, 29, 30, 31, 1, 32, 33, 34, 35, 36, 37, 38, 39, 40, 41, 42, 43, 44, 45, 46, 47, 48, 49, 50, 51, 52, 53, 67, 68, 69, 70, 71, 72, 73, 74, 75, 76, 77, 78, 79] (by decide +kernel) (by decide +kernel)
set_option maxRecDepth 20000 in
theorem gX3_minuteOn_X3_goOn : GoodIn wsX3_minuteOn (wsV RX3 140 RX3 yX3_goOn wsX3_goOn) := goodIn_app (goodIn_of _ (by decide +kernel)) ggX3_minuteOn_X3_goOn
set_option maxRecDepth 20000 in
theorem ggX3_minuteOn_X3_burn : GoodIn wsX3_minuteOn wsX3_burn := goodIn_r _ [57, 9, 10, 11, 12, 3, 58, 23, 24, 25, 7, 26, 27, 50, 51, 52, 53, 59, 60, 61, 62, 63, 64, 65, 66, 36, 37, 38, 39, 40, 67, 68, 69, 70, 71, 72, 73, 74, 75, 76, 77, 78, 79] (by decide +kernel) (by decide +kernel)
set_option maxRecDepth 20000 in
theorem gX3_minuteOn_X3_burn : GoodIn wsX3_minuteOn (wsV RX3 143 RX3 yX3_burn wsX3_burn) := goodIn_app (goodIn_of _ (by decide +kernel)) ggX3_minuteOn_X3_burn
theorem dX3_minuteOn_0 : decode cX3_minuteOn 0 = .ok (.iconst 0, 1) := by decide +kernel
theorem dX3_minuteOn_1 : decode cX3_minuteOn 1 = .ok (.istore_n 1, 1) := by decide +kernel
theorem dX3_minuteOn_2 : decode cX3_minuteOn 2 = .ok (.iconst 0, 1) := by decide +kernel
theorem dX3_minuteOn_3 : decode cX3_minuteOn 3 = .ok (.istore_n 2, 1) := by decide +kernel
theorem dX3_minuteOn_4 : decode cX3_minuteOn 4 = .ok (.iload_n 2, 1) := by decide +kernel
theorem dX3_minuteOn_5 : decode cX3_minuteOn 5 = .ok (.aload_n 0, 1) := by decide +kernel
theorem dX3_minuteOn_6 : decode cX3_minuteOn 6 = .ok (.getfield 51, 3) := by decide +kernel
theorem dX3_minuteOn_9 : decode cX3_minuteOn 9 = .ok (.if_icmp .ge 30, 3) := by decide +kernel
theorem dX3_minuteOn_12 : decode cX3_minuteOn 12 = .ok (.aload_n 0, 1) := by decide +kernel
theorem dX3_minuteOn_13 : decode cX3_minuteOn 13 = .ok (.iload_n 2, 1) := by decide +kernel
theorem dX3_minuteOn_14 : decode cX3_minuteOn 14 = .ok (.invokevirtual 140, 3) := by decide +kernel
theorem dX3_minuteOn_17 : decode cX3_minuteOn 17 = .ok (.istore_n 3, 1) := by decide +kernel
theorem dX3_minuteOn_18 : decode cX3_minuteOn 18 = .ok (.iload_n 1, 1) := by decide +kernel
theorem dX3_minuteOn_19 : decode cX3_minuteOn 19 = .ok (.iload_n 3, 1) := by decide +kernel
theorem dX3_minuteOn_20 : decode cX3_minuteOn 20 = .ok (.iconst (-1), 1) := by decide +kernel
theorem dX3_minuteOn_21 : decode cX3_minuteOn 21 = .ok (.if_icmp .ne 7, 3) := by decide +kernel
theorem dX3_minuteOn_24 : decode cX3_minuteOn 24 = .ok (.iconst 0, 1) := by decide +kernel
theorem dX3_minuteOn_25 : decode cX3_minuteOn 25 = .ok (.goto 6, 3) := by decide +kernel
theorem dX3_minuteOn_28 : decode cX3_minuteOn 28 = .ok (.iconst 1, 1) := by decide +kernel
theorem dX3_minuteOn_29 : decode cX3_minuteOn 29 = .ok (.iload_n 3, 1) := by decide +kernel
theorem dX3_minuteOn_30 : decode cX3_minuteOn 30 = .ok (.ishl, 1) := by decide +kernel
theorem dX3_minuteOn_31 : decode cX3_minuteOn 31 = .ok (.ior, 1) := by decide +kernel
theorem dX3_minuteOn_32 : decode cX3_minuteOn 32 = .ok (.istore_n 1, 1) := by decide +kernel
theorem dX3_minuteOn_33 : decode cX3_minuteOn 33 = .ok (.iinc 2 1, 3) := by decide +kernel
theorem dX3_minuteOn_36 : decode cX3_minuteOn 36 = .ok (.goto (-32), 3) := by decide +kernel
theorem dX3_minuteOn_39 : decode cX3_minuteOn 39 = .ok (.iconst 0, 1) := by decide +kernel
theorem dX3_minuteOn_40 : decode cX3_minuteOn 40 = .ok (.istore_n 2, 1) := by decide +kernel
theorem dX3_minuteOn_41 : decode cX3_minuteOn 41 = .ok (.iload_n 2, 1) := by decide +kernel
theorem dX3_minuteOn_42 : decode cX3_minuteOn 42 = .ok (.aload_n 0, 1) := by decide +kernel
theorem dX3_minuteOn_43 : decode cX3_minuteOn 43 = .ok (.getfield 48, 3) := by decide +kernel
theorem dX3_minuteOn_46 : decode cX3_minuteOn 46 = .ok (.if_icmp .ge 14, 3) := by decide +kernel
theorem dX3_minuteOn_49 : decode cX3_minuteOn 49 = .ok (.aload_n 0, 1) := by decide +kernel
theorem dX3_minuteOn_50 : decode cX3_minuteOn 50 = .ok (.iload_n 2, 1) := by decide +kernel
theorem dX3_minuteOn_51 : decode cX3_minuteOn 51 = .ok (.invokevirtual 143, 3) := by decide +kernel
theorem dX3_minuteOn_54 : decode cX3_minuteOn 54 = .ok (.iinc 2 1, 3) := by decide +kernel
theorem dX3_minuteOn_57 : decode cX3_minuteOn 57 = .ok (.goto (-16), 3) := by decide +kernel
theorem dX3_minuteOn_60 : decode cX3_minuteOn 60 = .ok (.aload_n 0, 1) := by decide +kernel
theorem dX3_minuteOn_61 : decode cX3_minuteOn 61 = .ok (.getfield 31, 3) := by decide +kernel
theorem dX3_minuteOn_64 : decode cX3_minuteOn 64 = .ok (.iconst 0, 1) := by decide +kernel
theorem dX3_minuteOn_65 : decode cX3_minuteOn 65 = .ok (.dup2, 1) := by decide +kernel
theorem dX3_minuteOn_66 : decode cX3_minuteOn 66 = .ok (.iaload, 1) := by decide +kernel
theorem dX3_minuteOn_67 : decode cX3_minuteOn 67 = .ok (.iconst 1, 1) := by decide +kernel
theorem dX3_minuteOn_68 : decode cX3_minuteOn 68 = .ok (.iadd, 1) := by decide +kernel
theorem dX3_minuteOn_69 : decode cX3_minuteOn 69 = .ok (.iastore, 1) := by decide +kernel
theorem dX3_minuteOn_70 : decode cX3_minuteOn 70 = .ok (.iload_n 1, 1) := by decide +kernel
theorem dX3_minuteOn_71 : decode cX3_minuteOn 71 = .ok (.ireturn, 1) := by decide +kernel
set_option maxRecDepth 20000 in
theorem ggX3_minutesOn_X3_isOver : GoodIn wsX3_minutesOn wsX3_isOver := goodIn_r _ [5, 6, 75, 76, 77, 78, 79, 80, 81, 82, 83, 84, 85, 86, 87] (by decide +kernel) (by decide +kernel)
set_option maxRecDepth 20000 in
theorem gX3_minutesOn_X3_isOver : GoodIn wsX3_minutesOn (wsV RX3 146 RX3 yX3_isOver wsX3_isOver) := goodIn_app (goodIn_of _ (by decide +kernel)) ggX3_minutesOn_X3_isOver
set_option maxRecDepth 20000 in
theorem ggX3_minutesOn_X3_minuteOn : GoodIn wsX3_minutesOn wsX3_minuteOn := goodIn_r _ [10, 11, 12, 6, 13, 14, 15, 4, 16, 17, 18, 19, 20, 21, 22, 23, 24, 25, 26, 27, 28, 29, 30, 31, 32, 33, 34, 35, 36, 37, 38, 39, 40, 41, 42, 43, 44, 45, 46, 47, 48, 49, 50, 51, 52, 53, 54, 55, 56, 57, 58, 59, 60, 61, 62, 63, 64, 65, 66, 67, 68, 69, 70, 71, 72, 73, 74, 75, 76, 77, 78, 79, 80, 81, 82, 83, 84, 85, 86, 87] (by decide +kernel) (by decide +kernel)
set_option maxRecDepth 20000 in
theorem gX3_minutesOn_X3_minuteOn : GoodIn wsX3_minutesOn (wsV RX3 150 RX3 yX3_minuteOn wsX3_minuteOn) := goodIn_app (goodIn_of _ (by decide +kernel)) ggX3_minutesOn_X3_minuteOn
theorem dX3_minutesOn_0 : decode cX3_minutesOn 0 = .ok (.iconst 0, 1) := by decide +kernel
theorem dX3_minutesOn_1 : decode cX3_minutesOn 1 = .ok (.istore_n 2, 1) := by decide +kernel
theorem dX3_minutesOn_2 : decode cX3_minutesOn 2 = .ok (.iload_n 2, 1) := by decide +kernel
theorem dX3_minutesOn_3 : decode cX3_minutesOn 3 = .ok (.iload_n 1, 1) := by decide +kernel
theorem dX3_minutesOn_4 : decode cX3_minutesOn 4 = .ok (.if_icmp .ge 21, 3) := by decide +kernel
theorem dX3_minutesOn_7 : decode cX3_minutesOn 7 = .ok (.aload_n 0, 1) := by decide +kernel
theorem dX3_minutesOn_8 : decode cX3_minutesOn 8 = .ok (.invokevirtual 146, 3) := by decide +kernel
theorem dX3_minutesOn_11 : decode cX3_minutesOn 11 = .ok (.ifCond .ne 14, 3) := by decide +kernel
theorem dX3_minutesOn_14 : decode cX3_minutesOn 14 = .ok (.aload_n 0, 1) := by decide +kernel
theorem dX3_minutesOn_15 : decode cX3_minutesOn 15 = .ok (.invokevirtual 150, 3) := by decide +kernel
theorem dX3_minutesOn_18 : decode cX3_minutesOn 18 = .ok (.pop, 1) := by decide +kernel
theorem dX3_minutesOn_19 : decode cX3_minutesOn 19 = .ok (.iinc 2 1, 3) := by decide +kernel
theorem dX3_minutesOn_22 : decode cX3_minutesOn 22 = .ok (.goto (-20), 3) := by decide +kernel
theorem dX3_minutesOn_25 : decode cX3_minutesOn 25 = .ok (.return_, 1) := by decide +kernel
set_option maxRecDepth 20000 in
theorem ggX3_pass_X3_isIn : GoodIn wsX3_pass wsX3_isIn := goodIn_r _ [5] (by decide +kernel) (by decide +kernel)
set_option maxRecDepth 20000 in
theorem gX3_pass_X3_isIn : GoodIn wsX3_pass (va_wsS RX3 41 yX3_isIn wsX3_isIn) := goodIn_app (goodIn_of _ (by decide +kernel)) ggX3_pass_X3_isIn
set_option maxRecDepth 20000 in
theorem ggX3_pass_X3_fail : GoodIn wsX3_pass wsX3_fail := goodIn_r _ [9, 1, 91, 92, 93, 94, 95, 96, 97, 98, 99, 100, 101, 102, 103] (by decide +kernel) (by decide +kernel)
set_option maxRecDepth 20000 in
theorem gX3_pass_X3_fail : GoodIn wsX3_pass (wsV RX3 66 RX3 yX3_fail wsX3_fail) := goodIn_app (goodIn_of _ (by decide +kernel)) ggX3_pass_X3_fail
set_option maxRecDepth 20000 in
theorem ggX3_pass_X3_all : GoodIn wsX3_pass wsX3_all := goodIn_r _ [13, 14, 15, 16, 17, 4, 18, 19, 91, 92, 93, 94, 95, 96, 97, 98, 99, 100, 101, 102, 103] (by decide +kernel) (by decide +kernel)
set_option maxRecDepth 20000 in
theorem gX3_pass_X3_all : GoodIn wsX3_pass (wsV RX3 120 RX3 yX3_all wsX3_all) := goodIn_app (goodIn_of _ (by decide +kernel)) ggX3_pass_X3_all
set_option maxRecDepth 20000 in
theorem ggX3_pass_X3_minutesOn : GoodIn wsX3_pass wsX3_minutesOn := goodIn_r _ [23, 24, 25, 26, 4, 27, 28, 29, 30, 31, 32, 33, 14, 34, 35, 36, 37, 38, 39, 40, 41, 42, 43, 44, 45, 46, 47, 48, 49, 50, 51, 15, 16, 17, 18, 19, 52, 53, 54, 55, 56, 57, 58, 59, 60, 61, 62, 63, 64, 65, 66, 67, 68, 69, 70, 71, 72, 73, 74, 75, 76, 77, 78, 79, 80, 81, 82, 83, 84, 85, 86, 87, 88, 89, 90, 91, 92, 93, 94, 95, 96, 97, 98, 99, 100, 101, 102, 103] (by decide +kernel) (by decide +kernel)
set_option maxRecDepth 20000 in
theorem gX3_pass_X3_minutesOn : GoodIn wsX3_pass (wsV RX3 153 RX3 yX3_minutesOn wsX3_minutesOn) := goodIn_app (goodIn_of _ (by decide +kernel)) ggX3_pass_X3_minutesOn
theorem dX3_pass_0 : decode cX3_pass 0 = .ok (.aload_n 0, 1) := by decide +kernel
theorem dX3_pass_1 : decode cX3_pass 1 = .ok (.iconst 0, 1) := by decide +kernel
theorem dX3_pass_2 : decode cX3_pass 2 = .ok (.putfield 34, 3) := by decide +kernel
theorem dX3_pass_5 : decode cX3_pass 5 = .ok (.iload_n 1, 1) := by decide +kernel
theorem dX3_pass_6 : decode cX3_pass 6 = .ok (.iconst 1, 1) := by decide +kernel
theorem dX3_pass_7 : decode cX3_pass 7 = .ok (.sipush 600, 3) := by decide +kernel
theorem dX3_pass_10 : decode cX3_pass 10 = .ok (.invokestatic 41, 3) := by decide +kernel
theorem dX3_pass_13 : decode cX3_pass 13 = .ok (.ifCond .ne 9, 3) := by decide +kernel
theorem dX3_pass_16 : decode cX3_pass 16 = .ok (.aload_n 0, 1) := by decide +kernel
theorem dX3_pass_17 : decode cX3_pass 17 = .ok (.iconst 1, 1) := by decide +kernel
theorem dX3_pass_18 : decode cX3_pass 18 = .ok (.invokevirtual 66, 3) := by decide +kernel
theorem dX3_pass_21 : decode cX3_pass 21 = .ok (.ireturn, 1) := by decide +kernel
theorem dX3_pass_22 : decode cX3_pass 22 = .ok (.aload_n 0, 1) := by decide +kernel
theorem dX3_pass_23 : decode cX3_pass 23 = .ok (.bipush 6, 2) := by decide +kernel
theorem dX3_pass_25 : decode cX3_pass 25 = .ok (.invokevirtual 120, 3) := by decide +kernel
theorem dX3_pass_28 : decode cX3_pass 28 = .ok (.istore_n 2, 1) := by decide +kernel
theorem dX3_pass_29 : decode cX3_pass 29 = .ok (.aload_n 0, 1) := by decide +kernel
theorem dX3_pass_30 : decode cX3_pass 30 = .ok (.iload_n 1, 1) := by decide +kernel
theorem dX3_pass_31 : decode cX3_pass 31 = .ok (.invokevirtual 153, 3) := by decide +kernel
theorem dX3_pass_34 : decode cX3_pass 34 = .ok (.aload_n 0, 1) := by decide +kernel
theorem dX3_pass_35 : decode cX3_pass 35 = .ok (.bipush 6, 2) := by decide +kernel
theorem dX3_pass_37 : decode cX3_pass 37 = .ok (.invokevirtual 120, 3) := by decide +kernel
theorem dX3_pass_40 : decode cX3_pass 40 = .ok (.iload_n 2, 1) := by decide +kernel
theorem dX3_pass_41 : decode cX3_pass 41 = .ok (.isub, 1) := by decide +kernel
theorem dX3_pass_42 : decode cX3_pass 42 = .ok (.ireturn, 1) := by decide +kernel
set_option maxRecDepth 20000 in
theorem ggX3_dawn_X3_isOver : GoodIn wsX3_dawn wsX3_isOver := goodIn_r _ [9, 4, 36, 37, 38, 39, 40, 41, 42, 43, 44, 45, 46, 47, 48] (by decide +kernel) (by decide +kernel)
set_option maxRecDepth 20000 in
theorem gX3_dawn_X3_isOver : GoodIn wsX3_dawn (wsV RX3 146 RX3 yX3_isOver wsX3_isOver) := goodIn_app (goodIn_of _ (by decide +kernel)) ggX3_dawn_X3_isOver
set_option maxRecDepth 20000 in
theorem ggX3_dawn_X3_fail : GoodIn wsX3_dawn wsX3_fail := goodIn_r _ [13, 1, 36, 37, 38, 39, 40, 41, 42, 43, 44, 45, 46, 47, 48] (by decide +kernel) (by decide +kernel)
set_option maxRecDepth 20000 in
theorem gX3_dawn_X3_fail : GoodIn wsX3_dawn (wsV RX3 66 RX3 yX3_fail wsX3_fail) := goodIn_app (goodIn_of _ (by decide +kernel)) ggX3_dawn_X3_fail
set_option maxRecDepth 20000 in
theorem ggX3_dawn_X3_all : GoodIn wsX3_dawn wsX3_all := goodIn_r _ [17, 2, 18, 19, 20, 8, 21, 22, 36, 37, 38, 39, 40, 41, 42, 43, 44, 45, 46, 47, 48] (by decide +kernel) (by decide +kernel)
set_option maxRecDepth 20000 in
theorem gX3_dawn_X3_all : GoodIn wsX3_dawn (wsV RX3 120 RX3 yX3_all wsX3_all) := goodIn_app (goodIn_of _ (by decide +kernel)) ggX3_dawn_X3_all
set_option maxRecDepth 20000 in
theorem ggX3_dawn_X3_setLamp : GoodIn wsX3_dawn wsX3_setLamp := goodIn_r _ [26, 22, 36, 37, 38, 39, 40, 41, 42, 43, 44, 45, 46, 47, 48] (by decide +kernel) (by decide +kernel)
set_option maxRecDepth 20000 in
theorem gX3_dawn_X3_setLamp : GoodIn wsX3_dawn (wsV RX3 92 RX3 yX3_setLamp wsX3_setLamp) := goodIn_app (goodIn_of _ (by decide +kernel)) ggX3_dawn_X3_setLamp
set_option maxRecDepth 20000 in
theorem ggX3_dawn_X3_pe : GoodIn wsX3_dawn wsX3_pe := goodIn_r _ [30, 31, 36, 37, 38, 39, 40, 41, 42, 43, 44, 45, 46, 47, 48] (by decide +kernel) (by decide +kernel)
set_option maxRecDepth 20000 in
theorem gX3_dawn_X3_pe : GoodIn wsX3_dawn (wsV RX3 99 RX3 yX3_pe wsX3_pe) := goodIn_app (goodIn_of _ (by decide +kernel)) ggX3_dawn_X3_pe
set_option maxRecDepth 20000 in
theorem ggX3_dawn_X3_put : GoodIn wsX3_dawn wsX3_put := goodIn_r _ [35, 31, 36, 37, 38, 39, 40, 41, 42, 43, 44, 45, 46, 47, 48] (by decide +kernel) (by decide +kernel)
set_option maxRecDepth 20000 in
theorem gX3_dawn_X3_put : GoodIn wsX3_dawn (wsV RX3 102 RX3 yX3_put wsX3_put) := goodIn_app (goodIn_of _ (by decide +kernel)) ggX3_dawn_X3_put
theorem dX3_dawn_0 : decode cX3_dawn 0 = .ok (.aload_n 0, 1) := by decide +kernel
theorem dX3_dawn_1 : decode cX3_dawn 1 = .ok (.iconst 0, 1) := by decide +kernel
theorem dX3_dawn_2 : decode cX3_dawn 2 = .ok (.putfield 34, 3) := by decide +kernel
theorem dX3_dawn_5 : decode cX3_dawn 5 = .ok (.aload_n 0, 1) := by decide +kernel
theorem dX3_dawn_6 : decode cX3_dawn 6 = .ok (.invokevirtual 146, 3) := by decide +kernel
theorem dX3_dawn_9 : decode cX3_dawn 9 = .ok (.ifCond .ne 9, 3) := by decide +kernel
theorem dX3_dawn_12 : decode cX3_dawn 12 = .ok (.aload_n 0, 1) := by decide +kernel
theorem dX3_dawn_13 : decode cX3_dawn 13 = .ok (.iconst 1, 1) := by decide +kernel
theorem dX3_dawn_14 : decode cX3_dawn 14 = .ok (.invokevirtual 66, 3) := by decide +kernel
theorem dX3_dawn_17 : decode cX3_dawn 17 = .ok (.ireturn, 1) := by decide +kernel
theorem dX3_dawn_18 : decode cX3_dawn 18 = .ok (.aload_n 0, 1) := by decide +kernel
theorem dX3_dawn_19 : decode cX3_dawn 19 = .ok (.iconst 5, 1) := by decide +kernel
theorem dX3_dawn_20 : decode cX3_dawn 20 = .ok (.invokevirtual 120, 3) := by decide +kernel
theorem dX3_dawn_23 : decode cX3_dawn 23 = .ok (.istore_n 1, 1) := by decide +kernel
theorem dX3_dawn_24 : decode cX3_dawn 24 = .ok (.iconst 0, 1) := by decide +kernel
theorem dX3_dawn_25 : decode cX3_dawn 25 = .ok (.istore_n 2, 1) := by decide +kernel
theorem dX3_dawn_26 : decode cX3_dawn 26 = .ok (.iload_n 2, 1) := by decide +kernel
theorem dX3_dawn_27 : decode cX3_dawn 27 = .ok (.aload_n 0, 1) := by decide +kernel
theorem dX3_dawn_28 : decode cX3_dawn 28 = .ok (.getfield 48, 3) := by decide +kernel
theorem dX3_dawn_31 : decode cX3_dawn 31 = .ok (.if_icmp .ge 16, 3) := by decide +kernel
theorem dX3_dawn_34 : decode cX3_dawn 34 = .ok (.aload_n 0, 1) := by decide +kernel
theorem dX3_dawn_35 : decode cX3_dawn 35 = .ok (.iload_n 2, 1) := by decide +kernel
theorem dX3_dawn_36 : decode cX3_dawn 36 = .ok (.iconst 5, 1) := by decide +kernel
theorem dX3_dawn_37 : decode cX3_dawn 37 = .ok (.iconst 0, 1) := by decide +kernel
theorem dX3_dawn_38 : decode cX3_dawn 38 = .ok (.invokevirtual 92, 3) := by decide +kernel
theorem dX3_dawn_41 : decode cX3_dawn 41 = .ok (.iinc 2 1, 3) := by decide +kernel
theorem dX3_dawn_44 : decode cX3_dawn 44 = .ok (.goto (-18), 3) := by decide +kernel
theorem dX3_dawn_47 : decode cX3_dawn 47 = .ok (.iconst 0, 1) := by decide +kernel
theorem dX3_dawn_48 : decode cX3_dawn 48 = .ok (.istore_n 2, 1) := by decide +kernel
theorem dX3_dawn_49 : decode cX3_dawn 49 = .ok (.iload_n 2, 1) := by decide +kernel
theorem dX3_dawn_50 : decode cX3_dawn 50 = .ok (.aload_n 0, 1) := by decide +kernel
theorem dX3_dawn_51 : decode cX3_dawn 51 = .ok (.getfield 51, 3) := by decide +kernel
theorem dX3_dawn_54 : decode cX3_dawn 54 = .ok (.if_icmp .ge 44, 3) := by decide +kernel
theorem dX3_dawn_57 : decode cX3_dawn 57 = .ok (.aload_n 0, 1) := by decide +kernel
theorem dX3_dawn_58 : decode cX3_dawn 58 = .ok (.iload_n 2, 1) := by decide +kernel
theorem dX3_dawn_59 : decode cX3_dawn 59 = .ok (.iconst 1, 1) := by decide +kernel
theorem dX3_dawn_60 : decode cX3_dawn 60 = .ok (.aload_n 0, 1) := by decide +kernel
theorem dX3_dawn_61 : decode cX3_dawn 61 = .ok (.iload_n 2, 1) := by decide +kernel
theorem dX3_dawn_62 : decode cX3_dawn 62 = .ok (.iconst 0, 1) := by decide +kernel
theorem dX3_dawn_63 : decode cX3_dawn 63 = .ok (.invokevirtual 99, 3) := by decide +kernel
theorem dX3_dawn_66 : decode cX3_dawn 66 = .ok (.invokevirtual 102, 3) := by decide +kernel
theorem dX3_dawn_69 : decode cX3_dawn 69 = .ok (.aload_n 0, 1) := by decide +kernel
theorem dX3_dawn_70 : decode cX3_dawn 70 = .ok (.iload_n 2, 1) := by decide +kernel
theorem dX3_dawn_71 : decode cX3_dawn 71 = .ok (.iconst 5, 1) := by decide +kernel
theorem dX3_dawn_72 : decode cX3_dawn 72 = .ok (.iconst (-1), 1) := by decide +kernel
theorem dX3_dawn_73 : decode cX3_dawn 73 = .ok (.invokevirtual 102, 3) := by decide +kernel
theorem dX3_dawn_76 : decode cX3_dawn 76 = .ok (.aload_n 0, 1) := by decide +kernel
theorem dX3_dawn_77 : decode cX3_dawn 77 = .ok (.iload_n 2, 1) := by decide +kernel
theorem dX3_dawn_78 : decode cX3_dawn 78 = .ok (.bipush 6, 2) := by decide +kernel
theorem dX3_dawn_80 : decode cX3_dawn 80 = .ok (.iconst 0, 1) := by decide +kernel
theorem dX3_dawn_81 : decode cX3_dawn 81 = .ok (.invokevirtual 102, 3) := by decide +kernel
theorem dX3_dawn_84 : decode cX3_dawn 84 = .ok (.aload_n 0, 1) := by decide +kernel
theorem dX3_dawn_85 : decode cX3_dawn 85 = .ok (.iload_n 2, 1) := by decide +kernel
theorem dX3_dawn_86 : decode cX3_dawn 86 = .ok (.bipush 8, 2) := by decide +kernel
theorem dX3_dawn_88 : decode cX3_dawn 88 = .ok (.iconst (-1), 1) := by decide +kernel
theorem dX3_dawn_89 : decode cX3_dawn 89 = .ok (.invokevirtual 102, 3) := by decide +kernel
theorem dX3_dawn_92 : decode cX3_dawn 92 = .ok (.iinc 2 1, 3) := by decide +kernel
theorem dX3_dawn_95 : decode cX3_dawn 95 = .ok (.goto (-46), 3) := by decide +kernel
theorem dX3_dawn_98 : decode cX3_dawn 98 = .ok (.aload_n 0, 1) := by decide +kernel
theorem dX3_dawn_99 : decode cX3_dawn 99 = .ok (.getfield 31, 3) := by decide +kernel
theorem dX3_dawn_102 : decode cX3_dawn 102 = .ok (.iconst 0, 1) := by decide +kernel
theorem dX3_dawn_103 : decode cX3_dawn 103 = .ok (.iconst 0, 1) := by decide +kernel
theorem dX3_dawn_104 : decode cX3_dawn 104 = .ok (.iastore, 1) := by decide +kernel
theorem dX3_dawn_105 : decode cX3_dawn 105 = .ok (.aload_n 0, 1) := by decide +kernel
theorem dX3_dawn_106 : decode cX3_dawn 106 = .ok (.getfield 31, 3) := by decide +kernel
theorem dX3_dawn_109 : decode cX3_dawn 109 = .ok (.iconst 1, 1) := by decide +kernel
theorem dX3_dawn_110 : decode cX3_dawn 110 = .ok (.dup2, 1) := by decide +kernel
theorem dX3_dawn_111 : decode cX3_dawn 111 = .ok (.iaload, 1) := by decide +kernel
theorem dX3_dawn_112 : decode cX3_dawn 112 = .ok (.iconst 1, 1) := by decide +kernel
theorem dX3_dawn_113 : decode cX3_dawn 113 = .ok (.iadd, 1) := by decide +kernel
theorem dX3_dawn_114 : decode cX3_dawn 114 = .ok (.iastore, 1) := by decide +kernel
theorem dX3_dawn_115 : decode cX3_dawn 115 = .ok (.iload_n 1, 1) := by decide +kernel
theorem dX3_dawn_116 : decode cX3_dawn 116 = .ok (.ireturn, 1) := by decide +kernel
theorem dX3_kept_0 : decode cX3_kept 0 = .ok (.iconst 3, 1) := by decide +kernel
theorem dX3_kept_1 : decode cX3_kept 1 = .ok (.anewarray 156, 3) := by decide +kernel
theorem dX3_kept_4 : decode cX3_kept 4 = .ok (.dup, 1) := by decide +kernel
theorem dX3_kept_5 : decode cX3_kept 5 = .ok (.iconst 0, 1) := by decide +kernel
theorem dX3_kept_6 : decode cX3_kept 6 = .ok (.aload_n 0, 1) := by decide +kernel
theorem dX3_kept_7 : decode cX3_kept 7 = .ok (.getfield 19, 3) := by decide +kernel
theorem dX3_kept_10 : decode cX3_kept 10 = .ok (.invokevirtual 157, 3) := by decide +kernel
theorem dX3_kept_13 : decode cX3_kept 13 = .ok (.checkcast 156, 3) := by decide +kernel
theorem dX3_kept_16 : decode cX3_kept 16 = .ok (.aastore, 1) := by decide +kernel
theorem dX3_kept_17 : decode cX3_kept 17 = .ok (.dup, 1) := by decide +kernel
theorem dX3_kept_18 : decode cX3_kept 18 = .ok (.iconst 1, 1) := by decide +kernel
theorem dX3_kept_19 : decode cX3_kept 19 = .ok (.aload_n 0, 1) := by decide +kernel
theorem dX3_kept_20 : decode cX3_kept 20 = .ok (.getfield 22, 3) := by decide +kernel
theorem dX3_kept_23 : decode cX3_kept 23 = .ok (.invokevirtual 157, 3) := by decide +kernel
theorem dX3_kept_26 : decode cX3_kept 26 = .ok (.checkcast 156, 3) := by decide +kernel
theorem dX3_kept_29 : decode cX3_kept 29 = .ok (.aastore, 1) := by decide +kernel
theorem dX3_kept_30 : decode cX3_kept 30 = .ok (.dup, 1) := by decide +kernel
theorem dX3_kept_31 : decode cX3_kept 31 = .ok (.iconst 2, 1) := by decide +kernel
theorem dX3_kept_32 : decode cX3_kept 32 = .ok (.aload_n 0, 1) := by decide +kernel
theorem dX3_kept_33 : decode cX3_kept 33 = .ok (.getfield 31, 3) := by decide +kernel
theorem dX3_kept_36 : decode cX3_kept 36 = .ok (.invokevirtual 157, 3) := by decide +kernel
theorem dX3_kept_39 : decode cX3_kept 39 = .ok (.checkcast 156, 3) := by decide +kernel
theorem dX3_kept_42 : decode cX3_kept 42 = .ok (.aastore, 1) := by decide +kernel
theorem dX3_kept_43 : decode cX3_kept 43 = .ok (.areturn, 1) := by decide +kernel
theorem dX3_bringBack_0 : decode cX3_bringBack 0 = .ok (.aload_n 1, 1) := by decide +kernel
theorem dX3_bringBack_1 : decode cX3_bringBack 1 = .ok (.iconst 0, 1) := by decide +kernel
theorem dX3_bringBack_2 : decode cX3_bringBack 2 = .ok (.aaload, 1) := by decide +kernel
theorem dX3_bringBack_3 : decode cX3_bringBack 3 = .ok (.iconst 0, 1) := by decide +kernel
theorem dX3_bringBack_4 : decode cX3_bringBack 4 = .ok (.aload_n 0, 1) := by decide +kernel
theorem dX3_bringBack_5 : decode cX3_bringBack 5 = .ok (.getfield 19, 3) := by decide +kernel
theorem dX3_bringBack_8 : decode cX3_bringBack 8 = .ok (.iconst 0, 1) := by decide +kernel
theorem dX3_bringBack_9 : decode cX3_bringBack 9 = .ok (.aload_n 0, 1) := by decide +kernel
theorem dX3_bringBack_10 : decode cX3_bringBack 10 = .ok (.getfield 19, 3) := by decide +kernel
theorem dX3_bringBack_13 : decode cX3_bringBack 13 = .ok (.arraylength, 1) := by decide +kernel
theorem dX3_bringBack_14 : decode cX3_bringBack 14 = .ok (.invokestatic 77, 3) := by decide +kernel
theorem dX3_bringBack_17 : decode cX3_bringBack 17 = .ok (.aload_n 1, 1) := by decide +kernel
theorem dX3_bringBack_18 : decode cX3_bringBack 18 = .ok (.iconst 1, 1) := by decide +kernel
theorem dX3_bringBack_19 : decode cX3_bringBack 19 = .ok (.aaload, 1) := by decide +kernel
theorem dX3_bringBack_20 : decode cX3_bringBack 20 = .ok (.iconst 0, 1) := by decide +kernel
theorem dX3_bringBack_21 : decode cX3_bringBack 21 = .ok (.aload_n 0, 1) := by decide +kernel
theorem dX3_bringBack_22 : decode cX3_bringBack 22 = .ok (.getfield 22, 3) := by decide +kernel
theorem dX3_bringBack_25 : decode cX3_bringBack 25 = .ok (.iconst 0, 1) := by decide +kernel
theorem dX3_bringBack_26 : decode cX3_bringBack 26 = .ok (.aload_n 0, 1) := by decide +kernel
theorem dX3_bringBack_27 : decode cX3_bringBack 27 = .ok (.getfield 22, 3) := by decide +kernel
theorem dX3_bringBack_30 : decode cX3_bringBack 30 = .ok (.arraylength, 1) := by decide +kernel
theorem dX3_bringBack_31 : decode cX3_bringBack 31 = .ok (.invokestatic 77, 3) := by decide +kernel
theorem dX3_bringBack_34 : decode cX3_bringBack 34 = .ok (.aload_n 1, 1) := by decide +kernel
theorem dX3_bringBack_35 : decode cX3_bringBack 35 = .ok (.iconst 2, 1) := by decide +kernel
theorem dX3_bringBack_36 : decode cX3_bringBack 36 = .ok (.aaload, 1) := by decide +kernel
theorem dX3_bringBack_37 : decode cX3_bringBack 37 = .ok (.iconst 0, 1) := by decide +kernel
theorem dX3_bringBack_38 : decode cX3_bringBack 38 = .ok (.aload_n 0, 1) := by decide +kernel
theorem dX3_bringBack_39 : decode cX3_bringBack 39 = .ok (.getfield 31, 3) := by decide +kernel
theorem dX3_bringBack_42 : decode cX3_bringBack 42 = .ok (.iconst 0, 1) := by decide +kernel
theorem dX3_bringBack_43 : decode cX3_bringBack 43 = .ok (.aload_n 0, 1) := by decide +kernel
theorem dX3_bringBack_44 : decode cX3_bringBack 44 = .ok (.getfield 31, 3) := by decide +kernel
theorem dX3_bringBack_47 : decode cX3_bringBack 47 = .ok (.arraylength, 1) := by decide +kernel
theorem dX3_bringBack_48 : decode cX3_bringBack 48 = .ok (.invokestatic 77, 3) := by decide +kernel
theorem dX3_bringBack_51 : decode cX3_bringBack 51 = .ok (.return_, 1) := by decide +kernel
set_option maxRecDepth 20000 in
theorem ggX3_comes_X3_isLamp : GoodIn wsX3_comes wsX3_isLamp := goodIn_r _ [6, 7, 8, 9, 5, 10, 105, 106, 107, 108, 109, 110, 111, 112, 113, 114, 115, 116, 117] (by decide +kernel) (by decide +kernel)
set_option maxRecDepth 20000 in
theorem gX3_comes_X3_isLamp : GoodIn wsX3_comes (wsV RX3 86 RX3 yX3_isLamp wsX3_isLamp) := goodIn_app (goodIn_of _ (by decide +kernel)) ggX3_comes_X3_isLamp
set_option maxRecDepth 20000 in
theorem ggX3_comes_X3_fail : GoodIn wsX3_comes wsX3_fail := goodIn_r _ [14, 1, 105, 106, 107, 108, 109, 110, 111, 112, 113, 114, 115, 116, 117] (by decide +kernel) (by decide +kernel)
set_option maxRecDepth 20000 in
theorem gX3_comes_X3_fail : GoodIn wsX3_comes (wsV RX3 66 RX3 yX3_fail wsX3_fail) := goodIn_app (goodIn_of _ (by decide +kernel)) ggX3_comes_X3_fail
set_option maxRecDepth 20000 in
theorem ggX3_comes_X3_kept : GoodIn wsX3_comes wsX3_kept := goodIn_r _ [18, 19, 20, 21, 22, 23, 24, 25, 26, 27, 105, 106, 107, 108, 109, 110, 111, 112, 113, 114, 115, 116, 117] (by decide +kernel) (by decide +kernel)
set_option maxRecDepth 20000 in
theorem gX3_comes_X3_kept : GoodIn wsX3_comes (wsV RX3 161 RX3 yX3_kept wsX3_kept) := goodIn_app (goodIn_of _ (by decide +kernel)) ggX3_comes_X3_kept
set_option maxRecDepth 20000 in
theorem ggX3_comes_X3_isOver : GoodIn wsX3_comes wsX3_isOver := goodIn_r _ [31, 27, 105, 106, 107, 108, 109, 110, 111, 112, 113, 114, 115, 116, 117] (by decide +kernel) (by decide +kernel)
set_option maxRecDepth 20000 in
theorem gX3_comes_X3_isOver : GoodIn wsX3_comes (wsV RX3 146 RX3 yX3_isOver wsX3_isOver) := goodIn_app (goodIn_of _ (by decide +kernel)) ggX3_comes_X3_isOver
set_option maxRecDepth 20000 in
theorem ggX3_comes_X3_minuteOn : GoodIn wsX3_comes wsX3_minuteOn := goodIn_r _ [35, 36, 7, 27, 37, 38, 39, 5, 40, 41, 42, 43, 44, 45, 46, 47, 48, 26, 49, 50, 51, 52, 53, 54, 55, 56, 57, 20, 58, 59, 60, 61, 62, 63, 64, 65, 66, 67, 68, 69, 70, 71, 72, 73, 74, 75, 76, 77, 78, 79, 80, 81, 82, 83, 84, 85, 86, 87, 88, 89, 90, 91, 92, 93, 94, 95, 96, 105, 106, 107, 108, 109, 110, 111, 112, 113, 114, 115, 116, 117] (by decide +kernel) (by decide +kernel)
set_option maxRecDepth 20000 in
theorem gX3_comes_X3_minuteOn : GoodIn wsX3_comes (wsV RX3 150 RX3 yX3_minuteOn wsX3_minuteOn) := goodIn_app (goodIn_of _ (by decide +kernel)) ggX3_comes_X3_minuteOn
set_option maxRecDepth 20000 in
theorem ggX3_comes_X3_bringBack : GoodIn wsX3_comes wsX3_bringBack := goodIn_r _ [100, 20, 101, 102, 103, 104, 26, 27, 105, 106, 107, 108, 109, 110, 111, 112, 113, 114, 115, 116, 117] (by decide +kernel) (by decide +kernel)
set_option maxRecDepth 20000 in
theorem gX3_comes_X3_bringBack : GoodIn wsX3_comes (wsV RX3 165 RX3 yX3_bringBack wsX3_bringBack) := goodIn_app (goodIn_of _ (by decide +kernel)) ggX3_comes_X3_bringBack
theorem dX3_comes_0 : decode cX3_comes 0 = .ok (.aload_n 0, 1) := by decide +kernel
theorem dX3_comes_1 : decode cX3_comes 1 = .ok (.iconst 0, 1) := by decide +kernel
theorem dX3_comes_2 : decode cX3_comes 2 = .ok (.putfield 34, 3) := by decide +kernel
theorem dX3_comes_5 : decode cX3_comes 5 = .ok (.aload_n 0, 1) := by decide +kernel
theorem dX3_comes_6 : decode cX3_comes 6 = .ok (.iload_n 1, 1) := by decide +kernel
theorem dX3_comes_7 : decode cX3_comes 7 = .ok (.invokevirtual 86, 3) := by decide +kernel
theorem dX3_comes_10 : decode cX3_comes 10 = .ok (.ifCond .ne 9, 3) := by decide +kernel
theorem dX3_comes_13 : decode cX3_comes 13 = .ok (.aload_n 0, 1) := by decide +kernel
theorem dX3_comes_14 : decode cX3_comes 14 = .ok (.iconst 1, 1) := by decide +kernel
theorem dX3_comes_15 : decode cX3_comes 15 = .ok (.invokevirtual 66, 3) := by decide +kernel
theorem dX3_comes_18 : decode cX3_comes 18 = .ok (.ireturn, 1) := by decide +kernel
theorem dX3_comes_19 : decode cX3_comes 19 = .ok (.aload_n 0, 1) := by decide +kernel
theorem dX3_comes_20 : decode cX3_comes 20 = .ok (.invokevirtual 161, 3) := by decide +kernel
theorem dX3_comes_23 : decode cX3_comes 23 = .ok (.astore_n 2, 1) := by decide +kernel
theorem dX3_comes_24 : decode cX3_comes 24 = .ok (.iconst (-1), 1) := by decide +kernel
theorem dX3_comes_25 : decode cX3_comes 25 = .ok (.istore_n 3, 1) := by decide +kernel
theorem dX3_comes_26 : decode cX3_comes 26 = .ok (.iconst 1, 1) := by decide +kernel
theorem dX3_comes_27 : decode cX3_comes 27 = .ok (.istore 4, 2) := by decide +kernel
theorem dX3_comes_29 : decode cX3_comes 29 = .ok (.iload_n 3, 1) := by decide +kernel
theorem dX3_comes_30 : decode cX3_comes 30 = .ok (.iconst (-1), 1) := by decide +kernel
theorem dX3_comes_31 : decode cX3_comes 31 = .ok (.if_icmp .ne 31, 3) := by decide +kernel
theorem dX3_comes_34 : decode cX3_comes 34 = .ok (.aload_n 0, 1) := by decide +kernel
theorem dX3_comes_35 : decode cX3_comes 35 = .ok (.invokevirtual 146, 3) := by decide +kernel
theorem dX3_comes_38 : decode cX3_comes 38 = .ok (.ifCond .ne 24, 3) := by decide +kernel
theorem dX3_comes_41 : decode cX3_comes 41 = .ok (.aload_n 0, 1) := by decide +kernel
theorem dX3_comes_42 : decode cX3_comes 42 = .ok (.invokevirtual 150, 3) := by decide +kernel
theorem dX3_comes_45 : decode cX3_comes 45 = .ok (.iload_n 1, 1) := by decide +kernel
theorem dX3_comes_46 : decode cX3_comes 46 = .ok (.ishr, 1) := by decide +kernel
theorem dX3_comes_47 : decode cX3_comes 47 = .ok (.iconst 1, 1) := by decide +kernel
theorem dX3_comes_48 : decode cX3_comes 48 = .ok (.iand, 1) := by decide +kernel
theorem dX3_comes_49 : decode cX3_comes 49 = .ok (.iconst 1, 1) := by decide +kernel
theorem dX3_comes_50 : decode cX3_comes 50 = .ok (.if_icmp .ne 6, 3) := by decide +kernel
theorem dX3_comes_53 : decode cX3_comes 53 = .ok (.iload 4, 2) := by decide +kernel
theorem dX3_comes_55 : decode cX3_comes 55 = .ok (.istore_n 3, 1) := by decide +kernel
theorem dX3_comes_56 : decode cX3_comes 56 = .ok (.iinc 4 1, 3) := by decide +kernel
theorem dX3_comes_59 : decode cX3_comes 59 = .ok (.goto (-30), 3) := by decide +kernel
theorem dX3_comes_62 : decode cX3_comes 62 = .ok (.aload_n 0, 1) := by decide +kernel
theorem dX3_comes_63 : decode cX3_comes 63 = .ok (.aload_n 2, 1) := by decide +kernel
theorem dX3_comes_64 : decode cX3_comes 64 = .ok (.invokevirtual 165, 3) := by decide +kernel
theorem dX3_comes_67 : decode cX3_comes 67 = .ok (.iload_n 3, 1) := by decide +kernel
theorem dX3_comes_68 : decode cX3_comes 68 = .ok (.ireturn, 1) := by decide +kernel
set_option maxRecDepth 20000 in
theorem ggX3_darkest_X3_kept : GoodIn wsX3_darkest wsX3_kept := goodIn_r _ [8, 9, 10, 11, 12, 13, 14, 15, 16, 17, 100, 101, 102, 103, 104, 105, 106, 107, 108, 109, 110, 111, 112] (by decide +kernel) (by decide +kernel)
set_option maxRecDepth 20000 in
theorem gX3_darkest_X3_kept : GoodIn wsX3_darkest (wsV RX3 161 RX3 yX3_kept wsX3_kept) := goodIn_app (goodIn_of _ (by decide +kernel)) ggX3_darkest_X3_kept
set_option maxRecDepth 20000 in
theorem ggX3_darkest_X3_isOver : GoodIn wsX3_darkest wsX3_isOver := goodIn_r _ [21, 17, 100, 101, 102, 103, 104, 105, 106, 107, 108, 109, 110, 111, 112] (by decide +kernel) (by decide +kernel)
set_option maxRecDepth 20000 in
theorem gX3_darkest_X3_isOver : GoodIn wsX3_darkest (wsV RX3 146 RX3 yX3_isOver wsX3_isOver) := goodIn_app (goodIn_of _ (by decide +kernel)) ggX3_darkest_X3_isOver
set_option maxRecDepth 20000 in
theorem ggX3_darkest_X3_minuteOn : GoodIn wsX3_darkest wsX3_minuteOn := goodIn_r _ [25, 26, 27, 17, 28, 29, 30, 7, 31, 32, 33, 34, 35, 36, 37, 38, 39, 16, 40, 41, 42, 43, 44, 45, 46, 47, 48, 10, 49, 50, 51, 52, 53, 54, 55, 56, 57, 58, 59, 60, 61, 62, 63, 64, 65, 66, 67, 68, 69, 70, 71, 72, 73, 74, 75, 76, 77, 78, 79, 80, 81, 82, 83, 84, 85, 86, 87, 100, 101, 102, 103, 104, 105, 106, 107, 108, 109, 110, 111, 112] (by decide +kernel) (by decide +kernel)
set_option maxRecDepth 20000 in
theorem gX3_darkest_X3_minuteOn : GoodIn wsX3_darkest (wsV RX3 150 RX3 yX3_minuteOn wsX3_minuteOn) := goodIn_app (goodIn_of _ (by decide +kernel)) ggX3_darkest_X3_minuteOn
set_option maxRecDepth 20000 in
theorem ggX3_darkest_X3_burns : GoodIn wsX3_darkest wsX3_burns := goodIn_r _ [91, 27, 45, 46, 47, 7, 48, 10, 100, 101, 102, 103, 104, 105, 106, 107, 108, 109, 110, 111, 112] (by decide +kernel) (by decide +kernel)
set_option maxRecDepth 20000 in
theorem gX3_darkest_X3_burns : GoodIn wsX3_darkest (wsV RX3 117 RX3 yX3_burns wsX3_burns) := goodIn_app (goodIn_of _ (by decide +kernel)) ggX3_darkest_X3_burns
set_option maxRecDepth 20000 in
theorem ggX3_darkest_X3_bringBack : GoodIn wsX3_darkest wsX3_bringBack := goodIn_r _ [95, 10, 96, 97, 98, 99, 16, 17, 100, 101, 102, 103, 104, 105, 106, 107, 108, 109, 110, 111, 112] (by decide +kernel) (by decide +kernel)
set_option maxRecDepth 20000 in
theorem gX3_darkest_X3_bringBack : GoodIn wsX3_darkest (wsV RX3 165 RX3 yX3_bringBack wsX3_bringBack) := goodIn_app (goodIn_of _ (by decide +kernel)) ggX3_darkest_X3_bringBack
theorem dX3_darkest_0 : decode cX3_darkest 0 = .ok (.aload_n 0, 1) := by decide +kernel
theorem dX3_darkest_1 : decode cX3_darkest 1 = .ok (.iconst 0, 1) := by decide +kernel
theorem dX3_darkest_2 : decode cX3_darkest 2 = .ok (.putfield 34, 3) := by decide +kernel
theorem dX3_darkest_5 : decode cX3_darkest 5 = .ok (.aload_n 0, 1) := by decide +kernel
theorem dX3_darkest_6 : decode cX3_darkest 6 = .ok (.invokevirtual 161, 3) := by decide +kernel
theorem dX3_darkest_9 : decode cX3_darkest 9 = .ok (.astore_n 1, 1) := by decide +kernel
theorem dX3_darkest_10 : decode cX3_darkest 10 = .ok (.bipush 18, 2) := by decide +kernel
theorem dX3_darkest_12 : decode cX3_darkest 12 = .ok (.newarray .int, 2) := by decide +kernel
theorem dX3_darkest_14 : decode cX3_darkest 14 = .ok (.astore_n 2, 1) := by decide +kernel
theorem dX3_darkest_15 : decode cX3_darkest 15 = .ok (.aload_n 0, 1) := by decide +kernel
theorem dX3_darkest_16 : decode cX3_darkest 16 = .ok (.invokevirtual 146, 3) := by decide +kernel
theorem dX3_darkest_19 : decode cX3_darkest 19 = .ok (.ifCond .ne 46, 3) := by decide +kernel
theorem dX3_darkest_22 : decode cX3_darkest 22 = .ok (.aload_n 0, 1) := by decide +kernel
theorem dX3_darkest_23 : decode cX3_darkest 23 = .ok (.invokevirtual 150, 3) := by decide +kernel
theorem dX3_darkest_26 : decode cX3_darkest 26 = .ok (.pop, 1) := by decide +kernel
theorem dX3_darkest_27 : decode cX3_darkest 27 = .ok (.iconst 0, 1) := by decide +kernel
theorem dX3_darkest_28 : decode cX3_darkest 28 = .ok (.istore_n 3, 1) := by decide +kernel
theorem dX3_darkest_29 : decode cX3_darkest 29 = .ok (.iload_n 3, 1) := by decide +kernel
theorem dX3_darkest_30 : decode cX3_darkest 30 = .ok (.aload_n 0, 1) := by decide +kernel
theorem dX3_darkest_31 : decode cX3_darkest 31 = .ok (.getfield 45, 3) := by decide +kernel
theorem dX3_darkest_34 : decode cX3_darkest 34 = .ok (.if_icmp .ge 28, 3) := by decide +kernel
theorem dX3_darkest_37 : decode cX3_darkest 37 = .ok (.aload_n 2, 1) := by decide +kernel
theorem dX3_darkest_38 : decode cX3_darkest 38 = .ok (.iload_n 3, 1) := by decide +kernel
theorem dX3_darkest_39 : decode cX3_darkest 39 = .ok (.dup2, 1) := by decide +kernel
theorem dX3_darkest_40 : decode cX3_darkest 40 = .ok (.iaload, 1) := by decide +kernel
theorem dX3_darkest_41 : decode cX3_darkest 41 = .ok (.aload_n 0, 1) := by decide +kernel
theorem dX3_darkest_42 : decode cX3_darkest 42 = .ok (.iload_n 3, 1) := by decide +kernel
theorem dX3_darkest_43 : decode cX3_darkest 43 = .ok (.invokevirtual 117, 3) := by decide +kernel
theorem dX3_darkest_46 : decode cX3_darkest 46 = .ok (.ifCond .ne 7, 3) := by decide +kernel
theorem dX3_darkest_49 : decode cX3_darkest 49 = .ok (.iconst 1, 1) := by decide +kernel
theorem dX3_darkest_50 : decode cX3_darkest 50 = .ok (.goto 4, 3) := by decide +kernel
theorem dX3_darkest_53 : decode cX3_darkest 53 = .ok (.iconst 0, 1) := by decide +kernel
theorem dX3_darkest_54 : decode cX3_darkest 54 = .ok (.iadd, 1) := by decide +kernel
theorem dX3_darkest_55 : decode cX3_darkest 55 = .ok (.iastore, 1) := by decide +kernel
theorem dX3_darkest_56 : decode cX3_darkest 56 = .ok (.iinc 3 1, 3) := by decide +kernel
theorem dX3_darkest_59 : decode cX3_darkest 59 = .ok (.goto (-30), 3) := by decide +kernel
theorem dX3_darkest_62 : decode cX3_darkest 62 = .ok (.goto (-47), 3) := by decide +kernel
theorem dX3_darkest_65 : decode cX3_darkest 65 = .ok (.aload_n 0, 1) := by decide +kernel
theorem dX3_darkest_66 : decode cX3_darkest 66 = .ok (.aload_n 1, 1) := by decide +kernel
theorem dX3_darkest_67 : decode cX3_darkest 67 = .ok (.invokevirtual 165, 3) := by decide +kernel
theorem dX3_darkest_70 : decode cX3_darkest 70 = .ok (.iconst (-1), 1) := by decide +kernel
theorem dX3_darkest_71 : decode cX3_darkest 71 = .ok (.istore_n 3, 1) := by decide +kernel
theorem dX3_darkest_72 : decode cX3_darkest 72 = .ok (.iconst 0, 1) := by decide +kernel
theorem dX3_darkest_73 : decode cX3_darkest 73 = .ok (.istore 4, 2) := by decide +kernel
theorem dX3_darkest_75 : decode cX3_darkest 75 = .ok (.iload 4, 2) := by decide +kernel
theorem dX3_darkest_77 : decode cX3_darkest 77 = .ok (.aload_n 0, 1) := by decide +kernel
theorem dX3_darkest_78 : decode cX3_darkest 78 = .ok (.getfield 45, 3) := by decide +kernel
theorem dX3_darkest_81 : decode cX3_darkest 81 = .ok (.if_icmp .ge 31, 3) := by decide +kernel
theorem dX3_darkest_84 : decode cX3_darkest 84 = .ok (.aload_n 2, 1) := by decide +kernel
theorem dX3_darkest_85 : decode cX3_darkest 85 = .ok (.iload 4, 2) := by decide +kernel
theorem dX3_darkest_87 : decode cX3_darkest 87 = .ok (.iaload, 1) := by decide +kernel
theorem dX3_darkest_88 : decode cX3_darkest 88 = .ok (.iload_n 3, 1) := by decide +kernel
theorem dX3_darkest_89 : decode cX3_darkest 89 = .ok (.iconst (-1), 1) := by decide +kernel
theorem dX3_darkest_90 : decode cX3_darkest 90 = .ok (.if_icmp .ne 7, 3) := by decide +kernel
theorem dX3_darkest_93 : decode cX3_darkest 93 = .ok (.iconst 0, 1) := by decide +kernel
theorem dX3_darkest_94 : decode cX3_darkest 94 = .ok (.goto 6, 3) := by decide +kernel
theorem dX3_darkest_97 : decode cX3_darkest 97 = .ok (.aload_n 2, 1) := by decide +kernel
theorem dX3_darkest_98 : decode cX3_darkest 98 = .ok (.iload_n 3, 1) := by decide +kernel
theorem dX3_darkest_99 : decode cX3_darkest 99 = .ok (.iaload, 1) := by decide +kernel
theorem dX3_darkest_100 : decode cX3_darkest 100 = .ok (.if_icmp .le 6, 3) := by decide +kernel
theorem dX3_darkest_103 : decode cX3_darkest 103 = .ok (.iload 4, 2) := by decide +kernel
theorem dX3_darkest_105 : decode cX3_darkest 105 = .ok (.istore_n 3, 1) := by decide +kernel
theorem dX3_darkest_106 : decode cX3_darkest 106 = .ok (.iinc 4 1, 3) := by decide +kernel
theorem dX3_darkest_109 : decode cX3_darkest 109 = .ok (.goto (-34), 3) := by decide +kernel
theorem dX3_darkest_112 : decode cX3_darkest 112 = .ok (.iload_n 3, 1) := by decide +kernel
theorem dX3_darkest_113 : decode cX3_darkest 113 = .ok (.ireturn, 1) := by decide +kernel
set_option maxRecDepth 20000 in
theorem ggX3_needs_X3_isLamp : GoodIn wsX3_needs wsX3_isLamp := goodIn_r _ [11, 12, 13, 14, 10, 15, 35, 36, 37, 38, 39, 40, 41, 42, 43, 44, 45, 46, 47] (by decide +kernel) (by decide +kernel)
set_option maxRecDepth 20000 in
theorem gX3_needs_X3_isLamp : GoodIn wsX3_needs (wsV RX3 86 RX3 yX3_isLamp wsX3_isLamp) := goodIn_app (goodIn_of _ (by decide +kernel)) ggX3_needs_X3_isLamp
set_option maxRecDepth 20000 in
theorem ggX3_needs_X3_fail : GoodIn wsX3_needs wsX3_fail := goodIn_r _ [19, 1, 35, 36, 37, 38, 39, 40, 41, 42, 43, 44, 45, 46, 47] (by decide +kernel) (by decide +kernel)
set_option maxRecDepth 20000 in
theorem gX3_needs_X3_fail : GoodIn wsX3_needs (wsV RX3 66 RX3 yX3_fail wsX3_fail) := goodIn_app (goodIn_of _ (by decide +kernel)) ggX3_needs_X3_fail
set_option maxRecDepth 20000 in
theorem ggX3_needs_X3_gust : GoodIn wsX3_needs wsX3_gust := goodIn_r _ [23, 24, 3, 4, 5, 6, 25, 26, 27, 10, 28, 29, 30, 31, 32, 33, 34, 35, 36, 37, 38, 39, 40, 41, 42, 43, 44, 45, 46, 47] (by decide +kernel) (by decide +kernel)
set_option maxRecDepth 20000 in
theorem gX3_needs_X3_gust : GoodIn wsX3_needs (wsV RX3 137 RX3 yX3_gust wsX3_gust) := goodIn_app (goodIn_of _ (by decide +kernel)) ggX3_needs_X3_gust
theorem dX3_needs_0 : decode cX3_needs 0 = .ok (.aload_n 0, 1) := by decide +kernel
theorem dX3_needs_1 : decode cX3_needs 1 = .ok (.iconst 0, 1) := by decide +kernel
theorem dX3_needs_2 : decode cX3_needs 2 = .ok (.putfield 34, 3) := by decide +kernel
theorem dX3_needs_5 : decode cX3_needs 5 = .ok (.aload_n 0, 1) := by decide +kernel
theorem dX3_needs_6 : decode cX3_needs 6 = .ok (.iload_n 1, 1) := by decide +kernel
theorem dX3_needs_7 : decode cX3_needs 7 = .ok (.invokevirtual 86, 3) := by decide +kernel
theorem dX3_needs_10 : decode cX3_needs 10 = .ok (.ifCond .ne 9, 3) := by decide +kernel
theorem dX3_needs_13 : decode cX3_needs 13 = .ok (.aload_n 0, 1) := by decide +kernel
theorem dX3_needs_14 : decode cX3_needs 14 = .ok (.iconst 1, 1) := by decide +kernel
theorem dX3_needs_15 : decode cX3_needs 15 = .ok (.invokevirtual 66, 3) := by decide +kernel
theorem dX3_needs_18 : decode cX3_needs 18 = .ok (.ireturn, 1) := by decide +kernel
theorem dX3_needs_19 : decode cX3_needs 19 = .ok (.iconst 0, 1) := by decide +kernel
theorem dX3_needs_20 : decode cX3_needs 20 = .ok (.istore_n 2, 1) := by decide +kernel
theorem dX3_needs_21 : decode cX3_needs 21 = .ok (.aload_n 0, 1) := by decide +kernel
theorem dX3_needs_22 : decode cX3_needs 22 = .ok (.getfield 28, 3) := by decide +kernel
theorem dX3_needs_25 : decode cX3_needs 25 = .ok (.astore_n 3, 1) := by decide +kernel
theorem dX3_needs_26 : decode cX3_needs 26 = .ok (.aload_n 3, 1) := by decide +kernel
theorem dX3_needs_27 : decode cX3_needs 27 = .ok (.arraylength, 1) := by decide +kernel
theorem dX3_needs_28 : decode cX3_needs 28 = .ok (.istore 4, 2) := by decide +kernel
theorem dX3_needs_30 : decode cX3_needs 30 = .ok (.iconst 0, 1) := by decide +kernel
theorem dX3_needs_31 : decode cX3_needs 31 = .ok (.istore 5, 2) := by decide +kernel
theorem dX3_needs_33 : decode cX3_needs 33 = .ok (.iload 5, 2) := by decide +kernel
theorem dX3_needs_35 : decode cX3_needs 35 = .ok (.iload 4, 2) := by decide +kernel
theorem dX3_needs_37 : decode cX3_needs 37 = .ok (.if_icmp .ge 27, 3) := by decide +kernel
theorem dX3_needs_40 : decode cX3_needs 40 = .ok (.aload_n 3, 1) := by decide +kernel
theorem dX3_needs_41 : decode cX3_needs 41 = .ok (.iload 5, 2) := by decide +kernel
theorem dX3_needs_43 : decode cX3_needs 43 = .ok (.iaload, 1) := by decide +kernel
theorem dX3_needs_44 : decode cX3_needs 44 = .ok (.istore 6, 2) := by decide +kernel
theorem dX3_needs_46 : decode cX3_needs 46 = .ok (.iload_n 2, 1) := by decide +kernel
theorem dX3_needs_47 : decode cX3_needs 47 = .ok (.aload_n 0, 1) := by decide +kernel
theorem dX3_needs_48 : decode cX3_needs 48 = .ok (.iload_n 1, 1) := by decide +kernel
theorem dX3_needs_49 : decode cX3_needs 49 = .ok (.iload 6, 2) := by decide +kernel
theorem dX3_needs_51 : decode cX3_needs 51 = .ok (.invokevirtual 137, 3) := by decide +kernel
theorem dX3_needs_54 : decode cX3_needs 54 = .ok (.invokestatic 58, 3) := by decide +kernel
theorem dX3_needs_57 : decode cX3_needs 57 = .ok (.istore_n 2, 1) := by decide +kernel
theorem dX3_needs_58 : decode cX3_needs 58 = .ok (.iinc 5 1, 3) := by decide +kernel
theorem dX3_needs_61 : decode cX3_needs 61 = .ok (.goto (-28), 3) := by decide +kernel
theorem dX3_needs_64 : decode cX3_needs 64 = .ok (.iconst 0, 1) := by decide +kernel
theorem dX3_needs_65 : decode cX3_needs 65 = .ok (.iload_n 2, 1) := by decide +kernel
theorem dX3_needs_66 : decode cX3_needs 66 = .ok (.iconst 4, 1) := by decide +kernel
theorem dX3_needs_67 : decode cX3_needs 67 = .ok (.isub, 1) := by decide +kernel
theorem dX3_needs_68 : decode cX3_needs 68 = .ok (.invokestatic 58, 3) := by decide +kernel
theorem dX3_needs_71 : decode cX3_needs 71 = .ok (.istore_n 3, 1) := by decide +kernel
theorem dX3_needs_72 : decode cX3_needs 72 = .ok (.iload_n 3, 1) := by decide +kernel
theorem dX3_needs_73 : decode cX3_needs 73 = .ok (.bipush 9, 2) := by decide +kernel
theorem dX3_needs_75 : decode cX3_needs 75 = .ok (.if_icmp .le 7, 3) := by decide +kernel
theorem dX3_needs_78 : decode cX3_needs 78 = .ok (.iconst (-1), 1) := by decide +kernel
theorem dX3_needs_79 : decode cX3_needs 79 = .ok (.goto 4, 3) := by decide +kernel
theorem dX3_needs_82 : decode cX3_needs 82 = .ok (.iload_n 3, 1) := by decide +kernel
theorem dX3_needs_83 : decode cX3_needs 83 = .ok (.ireturn, 1) := by decide +kernel
set_option maxRecDepth 20000 in
theorem ggX3_foresee_X3_isIn : GoodIn wsX3_foresee wsX3_isIn := goodIn_r _ [6] (by decide +kernel) (by decide +kernel)
set_option maxRecDepth 20000 in
theorem gX3_foresee_X3_isIn : GoodIn wsX3_foresee (va_wsS RX3 41 yX3_isIn wsX3_isIn) := goodIn_app (goodIn_of _ (by decide +kernel)) ggX3_foresee_X3_isIn
set_option maxRecDepth 20000 in
theorem ggX3_foresee_X3_fail : GoodIn wsX3_foresee wsX3_fail := goodIn_r _ [10, 1, 118, 119, 120, 121, 122, 123, 124, 125, 126, 127, 128, 129, 130] (by decide +kernel) (by decide +kernel)
set_option maxRecDepth 20000 in
theorem gX3_foresee_X3_fail : GoodIn wsX3_foresee (wsV RX3 66 RX3 yX3_fail wsX3_fail) := goodIn_app (goodIn_of _ (by decide +kernel)) ggX3_foresee_X3_fail
set_option maxRecDepth 20000 in
theorem ggX3_foresee_X3_kept : GoodIn wsX3_foresee wsX3_kept := goodIn_r _ [14, 15, 16, 17, 18, 19, 20, 21, 22, 2, 118, 119, 120, 121, 122, 123, 124, 125, 126, 127, 128, 129, 130] (by decide +kernel) (by decide +kernel)
set_option maxRecDepth 20000 in
theorem gX3_foresee_X3_kept : GoodIn wsX3_foresee (wsV RX3 161 RX3 yX3_kept wsX3_kept) := goodIn_app (goodIn_of _ (by decide +kernel)) ggX3_foresee_X3_kept
set_option maxRecDepth 20000 in
theorem ggX3_foresee_X3_minutesOn : GoodIn wsX3_foresee wsX3_minutesOn := goodIn_r _ [26, 27, 28, 29, 5, 30, 2, 31, 32, 33, 34, 35, 36, 37, 38, 39, 40, 41, 42, 43, 44, 45, 46, 47, 48, 22, 49, 50, 51, 52, 53, 54, 55, 56, 57, 16, 58, 59, 60, 61, 62, 63, 64, 65, 66, 67, 68, 69, 70, 71, 72, 73, 74, 75, 76, 77, 78, 79, 80, 81, 82, 83, 84, 85, 86, 87, 88, 89, 90, 91, 92, 93, 94, 95, 96, 118, 119, 120, 121, 122, 123, 124, 125, 126, 127, 128, 129, 130] (by decide +kernel) (by decide +kernel)
set_option maxRecDepth 20000 in
theorem gX3_foresee_X3_minutesOn : GoodIn wsX3_foresee (wsV RX3 153 RX3 yX3_minutesOn wsX3_minutesOn) := goodIn_app (goodIn_of _ (by decide +kernel)) ggX3_foresee_X3_minutesOn
set_option maxRecDepth 20000 in
theorem ggX3_foresee_X3_all : GoodIn wsX3_foresee wsX3_all := goodIn_r _ [100, 36, 54, 55, 56, 5, 57, 16, 118, 119, 120, 121, 122, 123, 124, 125, 126, 127, 128, 129, 130] (by decide +kernel) (by decide +kernel)
set_option maxRecDepth 20000 in
theorem gX3_foresee_X3_all : GoodIn wsX3_foresee (wsV RX3 120 RX3 yX3_all wsX3_all) := goodIn_app (goodIn_of _ (by decide +kernel)) ggX3_foresee_X3_all
set_option maxRecDepth 20000 in
theorem ggX3_foresee_X3_dark : GoodIn wsX3_foresee wsX3_dark := goodIn_r _ [104, 105, 106, 107, 108, 5, 109, 36, 54, 55, 56, 57, 16, 118, 119, 120, 121, 122, 123, 124, 125, 126, 127, 128, 129, 130] (by decide +kernel) (by decide +kernel)
set_option maxRecDepth 20000 in
theorem gX3_foresee_X3_dark : GoodIn wsX3_foresee (wsV RX3 123 RX3 yX3_dark wsX3_dark) := goodIn_app (goodIn_of _ (by decide +kernel)) ggX3_foresee_X3_dark
set_option maxRecDepth 20000 in
theorem ggX3_foresee_X3_bringBack : GoodIn wsX3_foresee wsX3_bringBack := goodIn_r _ [113, 16, 114, 115, 116, 117, 22, 2, 118, 119, 120, 121, 122, 123, 124, 125, 126, 127, 128, 129, 130] (by decide +kernel) (by decide +kernel)
set_option maxRecDepth 20000 in
theorem gX3_foresee_X3_bringBack : GoodIn wsX3_foresee (wsV RX3 165 RX3 yX3_bringBack wsX3_bringBack) := goodIn_app (goodIn_of _ (by decide +kernel)) ggX3_foresee_X3_bringBack
theorem dX3_foresee_0 : decode cX3_foresee 0 = .ok (.aload_n 0, 1) := by decide +kernel
theorem dX3_foresee_1 : decode cX3_foresee 1 = .ok (.iconst 0, 1) := by decide +kernel
theorem dX3_foresee_2 : decode cX3_foresee 2 = .ok (.putfield 34, 3) := by decide +kernel
theorem dX3_foresee_5 : decode cX3_foresee 5 = .ok (.iload_n 1, 1) := by decide +kernel
theorem dX3_foresee_6 : decode cX3_foresee 6 = .ok (.iconst 1, 1) := by decide +kernel
theorem dX3_foresee_7 : decode cX3_foresee 7 = .ok (.sipush 600, 3) := by decide +kernel
theorem dX3_foresee_10 : decode cX3_foresee 10 = .ok (.invokestatic 41, 3) := by decide +kernel
theorem dX3_foresee_13 : decode cX3_foresee 13 = .ok (.ifCond .ne 9, 3) := by decide +kernel
theorem dX3_foresee_16 : decode cX3_foresee 16 = .ok (.aload_n 0, 1) := by decide +kernel
theorem dX3_foresee_17 : decode cX3_foresee 17 = .ok (.iconst 1, 1) := by decide +kernel
theorem dX3_foresee_18 : decode cX3_foresee 18 = .ok (.invokevirtual 66, 3) := by decide +kernel
theorem dX3_foresee_21 : decode cX3_foresee 21 = .ok (.ireturn, 1) := by decide +kernel
theorem dX3_foresee_22 : decode cX3_foresee 22 = .ok (.iload_n 2, 1) := by decide +kernel
theorem dX3_foresee_23 : decode cX3_foresee 23 = .ok (.iconst 0, 1) := by decide +kernel
theorem dX3_foresee_24 : decode cX3_foresee 24 = .ok (.iconst 2, 1) := by decide +kernel
theorem dX3_foresee_25 : decode cX3_foresee 25 = .ok (.invokestatic 41, 3) := by decide +kernel
theorem dX3_foresee_28 : decode cX3_foresee 28 = .ok (.ifCond .ne 9, 3) := by decide +kernel
theorem dX3_foresee_31 : decode cX3_foresee 31 = .ok (.aload_n 0, 1) := by decide +kernel
theorem dX3_foresee_32 : decode cX3_foresee 32 = .ok (.iconst 2, 1) := by decide +kernel
theorem dX3_foresee_33 : decode cX3_foresee 33 = .ok (.invokevirtual 66, 3) := by decide +kernel
theorem dX3_foresee_36 : decode cX3_foresee 36 = .ok (.ireturn, 1) := by decide +kernel
theorem dX3_foresee_37 : decode cX3_foresee 37 = .ok (.aload_n 0, 1) := by decide +kernel
theorem dX3_foresee_38 : decode cX3_foresee 38 = .ok (.invokevirtual 161, 3) := by decide +kernel
theorem dX3_foresee_41 : decode cX3_foresee 41 = .ok (.astore_n 3, 1) := by decide +kernel
theorem dX3_foresee_42 : decode cX3_foresee 42 = .ok (.aload_n 0, 1) := by decide +kernel
theorem dX3_foresee_43 : decode cX3_foresee 43 = .ok (.getfield 31, 3) := by decide +kernel
theorem dX3_foresee_46 : decode cX3_foresee 46 = .ok (.iconst 2, 1) := by decide +kernel
theorem dX3_foresee_47 : decode cX3_foresee 47 = .ok (.iaload, 1) := by decide +kernel
theorem dX3_foresee_48 : decode cX3_foresee 48 = .ok (.istore 4, 2) := by decide +kernel
theorem dX3_foresee_50 : decode cX3_foresee 50 = .ok (.aload_n 0, 1) := by decide +kernel
theorem dX3_foresee_51 : decode cX3_foresee 51 = .ok (.iload_n 1, 1) := by decide +kernel
theorem dX3_foresee_52 : decode cX3_foresee 52 = .ok (.invokevirtual 153, 3) := by decide +kernel
theorem dX3_foresee_55 : decode cX3_foresee 55 = .ok (.iload_n 2, 1) := by decide +kernel
theorem dX3_foresee_56 : decode cX3_foresee 56 = .ok (.ifCond .ne 11, 3) := by decide +kernel
theorem dX3_foresee_59 : decode cX3_foresee 59 = .ok (.aload_n 0, 1) := by decide +kernel
theorem dX3_foresee_60 : decode cX3_foresee 60 = .ok (.iconst 5, 1) := by decide +kernel
theorem dX3_foresee_61 : decode cX3_foresee 61 = .ok (.invokevirtual 120, 3) := by decide +kernel
theorem dX3_foresee_64 : decode cX3_foresee 64 = .ok (.goto 24, 3) := by decide +kernel
theorem dX3_foresee_67 : decode cX3_foresee 67 = .ok (.iload_n 2, 1) := by decide +kernel
theorem dX3_foresee_68 : decode cX3_foresee 68 = .ok (.iconst 1, 1) := by decide +kernel
theorem dX3_foresee_69 : decode cX3_foresee 69 = .ok (.if_icmp .ne 10, 3) := by decide +kernel
theorem dX3_foresee_72 : decode cX3_foresee 72 = .ok (.aload_n 0, 1) := by decide +kernel
theorem dX3_foresee_73 : decode cX3_foresee 73 = .ok (.invokevirtual 123, 3) := by decide +kernel
theorem dX3_foresee_76 : decode cX3_foresee 76 = .ok (.goto 12, 3) := by decide +kernel
theorem dX3_foresee_79 : decode cX3_foresee 79 = .ok (.aload_n 0, 1) := by decide +kernel
theorem dX3_foresee_80 : decode cX3_foresee 80 = .ok (.getfield 31, 3) := by decide +kernel
theorem dX3_foresee_83 : decode cX3_foresee 83 = .ok (.iconst 2, 1) := by decide +kernel
theorem dX3_foresee_84 : decode cX3_foresee 84 = .ok (.iaload, 1) := by decide +kernel
theorem dX3_foresee_85 : decode cX3_foresee 85 = .ok (.iload 4, 2) := by decide +kernel
theorem dX3_foresee_87 : decode cX3_foresee 87 = .ok (.isub, 1) := by decide +kernel
theorem dX3_foresee_88 : decode cX3_foresee 88 = .ok (.istore 5, 2) := by decide +kernel
theorem dX3_foresee_90 : decode cX3_foresee 90 = .ok (.aload_n 0, 1) := by decide +kernel
theorem dX3_foresee_91 : decode cX3_foresee 91 = .ok (.aload_n 3, 1) := by decide +kernel
theorem dX3_foresee_92 : decode cX3_foresee 92 = .ok (.invokevirtual 165, 3) := by decide +kernel
theorem dX3_foresee_95 : decode cX3_foresee 95 = .ok (.iload 5, 2) := by decide +kernel
theorem dX3_foresee_97 : decode cX3_foresee 97 = .ok (.ireturn, 1) := by decide +kernel
set_option maxRecDepth 20000 in
theorem ggX3_mean_X3_all : GoodIn wsX3_mean wsX3_all := goodIn_r _ [7, 2, 8, 9, 10, 6, 11, 12, 13, 14, 15, 16, 17, 18, 19, 20, 21, 22, 23, 24, 25] (by decide +kernel) (by decide +kernel)
set_option maxRecDepth 20000 in
theorem gX3_mean_X3_all : GoodIn wsX3_mean (wsV RX3 120 RX3 yX3_all wsX3_all) := goodIn_app (goodIn_of _ (by decide +kernel)) ggX3_mean_X3_all
theorem dX3_mean_0 : decode cX3_mean 0 = .ok (.aload_n 0, 1) := by decide +kernel
theorem dX3_mean_1 : decode cX3_mean 1 = .ok (.iconst 0, 1) := by decide +kernel
theorem dX3_mean_2 : decode cX3_mean 2 = .ok (.putfield 34, 3) := by decide +kernel
theorem dX3_mean_5 : decode cX3_mean 5 = .ok (.aload_n 0, 1) := by decide +kernel
theorem dX3_mean_6 : decode cX3_mean 6 = .ok (.getfield 48, 3) := by decide +kernel
theorem dX3_mean_9 : decode cX3_mean 9 = .ok (.ifCond .ne 7, 3) := by decide +kernel
theorem dX3_mean_12 : decode cX3_mean 12 = .ok (.dconst 0, 1) := by decide +kernel
theorem dX3_mean_13 : decode cX3_mean 13 = .ok (.goto 15, 3) := by decide +kernel
theorem dX3_mean_16 : decode cX3_mean 16 = .ok (.aload_n 0, 1) := by decide +kernel
theorem dX3_mean_17 : decode cX3_mean 17 = .ok (.iconst 3, 1) := by decide +kernel
theorem dX3_mean_18 : decode cX3_mean 18 = .ok (.invokevirtual 120, 3) := by decide +kernel
theorem dX3_mean_21 : decode cX3_mean 21 = .ok (.i2d, 1) := by decide +kernel
theorem dX3_mean_22 : decode cX3_mean 22 = .ok (.aload_n 0, 1) := by decide +kernel
theorem dX3_mean_23 : decode cX3_mean 23 = .ok (.getfield 48, 3) := by decide +kernel
theorem dX3_mean_26 : decode cX3_mean 26 = .ok (.i2d, 1) := by decide +kernel
theorem dX3_mean_27 : decode cX3_mean 27 = .ok (.ddiv, 1) := by decide +kernel
theorem dX3_mean_28 : decode cX3_mean 28 = .ok (.dreturn, 1) := by decide +kernel
set_option maxRecDepth 20000 in
theorem ggX3_digest_X3_counted : GoodIn wsX3_digest wsX3_counted := goodIn_r _ [15, 16, 17, 4, 6, 7, 8, 18, 19, 20, 14, 21, 22, 23, 24, 25, 26, 27, 28, 29, 30, 31, 32, 33, 34, 57, 58, 59, 60, 61, 62, 63, 64, 65, 66, 67, 68, 69] (by decide +kernel) (by decide +kernel)
set_option maxRecDepth 20000 in
theorem gX3_digest_X3_counted : GoodIn wsX3_digest (wsV RX3 127 RX3 yX3_counted wsX3_counted) := goodIn_app (goodIn_of _ (by decide +kernel)) ggX3_digest_X3_counted
set_option maxRecDepth 20000 in
theorem ggX3_digest_X3_ro : GoodIn wsX3_digest wsX3_ro := goodIn_r _ [38, 39, 57, 58, 59, 60, 61, 62, 63, 64, 65, 66, 67, 68, 69] (by decide +kernel) (by decide +kernel)
set_option maxRecDepth 20000 in
theorem gX3_digest_X3_ro : GoodIn wsX3_digest (wsV RX3 54 RX3 yX3_ro wsX3_ro) := goodIn_app (goodIn_of _ (by decide +kernel)) ggX3_digest_X3_ro
set_option maxRecDepth 20000 in
theorem ggX3_digest_X3_burns : GoodIn wsX3_digest wsX3_burns := goodIn_r _ [34, 7, 22, 23, 24, 14, 25, 26, 57, 58, 59, 60, 61, 62, 63, 64, 65, 66, 67, 68, 69] (by decide +kernel) (by decide +kernel)
set_option maxRecDepth 20000 in
theorem gX3_digest_X3_burns : GoodIn wsX3_digest (wsV RX3 117 RX3 yX3_burns wsX3_burns) := goodIn_app (goodIn_of _ (by decide +kernel)) ggX3_digest_X3_burns
set_option maxRecDepth 20000 in
theorem ggX3_digest_X3_lampTold : GoodIn wsX3_digest wsX3_lampTold := goodIn_r _ [43, 22, 23, 24, 14, 25, 26, 44, 45, 46, 47, 8, 48, 49, 50, 51, 52, 57, 58, 59, 60, 61, 62, 63, 64, 65, 66, 67, 68, 69] (by decide +kernel) (by decide +kernel)
set_option maxRecDepth 20000 in
theorem gX3_digest_X3_lampTold : GoodIn wsX3_digest (wsV RX3 111 RX3 yX3_lampTold wsX3_lampTold) := goodIn_app (goodIn_of _ (by decide +kernel)) ggX3_digest_X3_lampTold
set_option maxRecDepth 20000 in
theorem ggX3_digest_X3_lighterTold : GoodIn wsX3_digest wsX3_lighterTold := goodIn_r _ [56, 16, 48, 49, 50, 14, 51, 52, 57, 58, 59, 60, 61, 62, 63, 64, 65, 66, 67, 68, 69] (by decide +kernel) (by decide +kernel)
set_option maxRecDepth 20000 in
theorem gX3_digest_X3_lighterTold : GoodIn wsX3_digest (wsV RX3 114 RX3 yX3_lighterTold wsX3_lighterTold) := goodIn_app (goodIn_of _ (by decide +kernel)) ggX3_digest_X3_lighterTold
set_option maxRecDepth 20000 in
theorem ggX3_digest_X3_pe : GoodIn wsX3_digest wsX3_pe := goodIn_r _ [51, 52, 57, 58, 59, 60, 61, 62, 63, 64, 65, 66, 67, 68, 69] (by decide +kernel) (by decide +kernel)
set_option maxRecDepth 20000 in
theorem gX3_digest_X3_pe : GoodIn wsX3_digest (wsV RX3 99 RX3 yX3_pe wsX3_pe) := goodIn_app (goodIn_of _ (by decide +kernel)) ggX3_digest_X3_pe
theorem dX3_digest_0 : decode cX3_digest 0 = .ok (.aload_n 0, 1) := by decide +kernel
theorem dX3_digest_1 : decode cX3_digest 1 = .ok (.iconst 0, 1) := by decide +kernel
theorem dX3_digest_2 : decode cX3_digest 2 = .ok (.putfield 34, 3) := by decide +kernel
theorem dX3_digest_5 : decode cX3_digest 5 = .ok (.ldc2_w 169, 3) := by decide +kernel
theorem dX3_digest_8 : decode cX3_digest 8 = .ok (.lstore_n 1, 1) := by decide +kernel
theorem dX3_digest_9 : decode cX3_digest 9 = .ok (.iconst 0, 1) := by decide +kernel
theorem dX3_digest_10 : decode cX3_digest 10 = .ok (.istore_n 3, 1) := by decide +kernel
theorem dX3_digest_11 : decode cX3_digest 11 = .ok (.iload_n 3, 1) := by decide +kernel
theorem dX3_digest_12 : decode cX3_digest 12 = .ok (.bipush 10, 2) := by decide +kernel
theorem dX3_digest_14 : decode cX3_digest 14 = .ok (.if_icmp .ge 22, 3) := by decide +kernel
theorem dX3_digest_17 : decode cX3_digest 17 = .ok (.lload_n 1, 1) := by decide +kernel
theorem dX3_digest_18 : decode cX3_digest 18 = .ok (.ldc2_w 171, 3) := by decide +kernel
theorem dX3_digest_21 : decode cX3_digest 21 = .ok (.lmul, 1) := by decide +kernel
theorem dX3_digest_22 : decode cX3_digest 22 = .ok (.aload_n 0, 1) := by decide +kernel
theorem dX3_digest_23 : decode cX3_digest 23 = .ok (.iload_n 3, 1) := by decide +kernel
theorem dX3_digest_24 : decode cX3_digest 24 = .ok (.invokevirtual 127, 3) := by decide +kernel
theorem dX3_digest_27 : decode cX3_digest 27 = .ok (.i2l, 1) := by decide +kernel
theorem dX3_digest_28 : decode cX3_digest 28 = .ok (.ladd, 1) := by decide +kernel
theorem dX3_digest_29 : decode cX3_digest 29 = .ok (.lstore_n 1, 1) := by decide +kernel
theorem dX3_digest_30 : decode cX3_digest 30 = .ok (.iinc 3 1, 3) := by decide +kernel
theorem dX3_digest_33 : decode cX3_digest 33 = .ok (.goto (-22), 3) := by decide +kernel
theorem dX3_digest_36 : decode cX3_digest 36 = .ok (.iconst 0, 1) := by decide +kernel
theorem dX3_digest_37 : decode cX3_digest 37 = .ok (.istore_n 3, 1) := by decide +kernel
theorem dX3_digest_38 : decode cX3_digest 38 = .ok (.iload_n 3, 1) := by decide +kernel
theorem dX3_digest_39 : decode cX3_digest 39 = .ok (.aload_n 0, 1) := by decide +kernel
theorem dX3_digest_40 : decode cX3_digest 40 = .ok (.getfield 38, 3) := by decide +kernel
theorem dX3_digest_43 : decode cX3_digest 43 = .ok (.if_icmp .ge 23, 3) := by decide +kernel
theorem dX3_digest_46 : decode cX3_digest 46 = .ok (.lload_n 1, 1) := by decide +kernel
theorem dX3_digest_47 : decode cX3_digest 47 = .ok (.ldc2_w 171, 3) := by decide +kernel
theorem dX3_digest_50 : decode cX3_digest 50 = .ok (.lmul, 1) := by decide +kernel
theorem dX3_digest_51 : decode cX3_digest 51 = .ok (.aload_n 0, 1) := by decide +kernel
theorem dX3_digest_52 : decode cX3_digest 52 = .ok (.getfield 9, 3) := by decide +kernel
theorem dX3_digest_55 : decode cX3_digest 55 = .ok (.iload_n 3, 1) := by decide +kernel
theorem dX3_digest_56 : decode cX3_digest 56 = .ok (.iaload, 1) := by decide +kernel
theorem dX3_digest_57 : decode cX3_digest 57 = .ok (.i2l, 1) := by decide +kernel
theorem dX3_digest_58 : decode cX3_digest 58 = .ok (.ladd, 1) := by decide +kernel
theorem dX3_digest_59 : decode cX3_digest 59 = .ok (.lstore_n 1, 1) := by decide +kernel
theorem dX3_digest_60 : decode cX3_digest 60 = .ok (.iinc 3 1, 3) := by decide +kernel
theorem dX3_digest_63 : decode cX3_digest 63 = .ok (.goto (-25), 3) := by decide +kernel
theorem dX3_digest_66 : decode cX3_digest 66 = .ok (.iconst 0, 1) := by decide +kernel
theorem dX3_digest_67 : decode cX3_digest 67 = .ok (.istore_n 3, 1) := by decide +kernel
theorem dX3_digest_68 : decode cX3_digest 68 = .ok (.iload_n 3, 1) := by decide +kernel
theorem dX3_digest_69 : decode cX3_digest 69 = .ok (.aload_n 0, 1) := by decide +kernel
theorem dX3_digest_70 : decode cX3_digest 70 = .ok (.getfield 45, 3) := by decide +kernel
theorem dX3_digest_73 : decode cX3_digest 73 = .ok (.if_icmp .ge 52, 3) := by decide +kernel
theorem dX3_digest_76 : decode cX3_digest 76 = .ok (.iconst 0, 1) := by decide +kernel
theorem dX3_digest_77 : decode cX3_digest 77 = .ok (.istore 4, 2) := by decide +kernel
theorem dX3_digest_79 : decode cX3_digest 79 = .ok (.iload 4, 2) := by decide +kernel
theorem dX3_digest_81 : decode cX3_digest 81 = .ok (.iconst 3, 1) := by decide +kernel
theorem dX3_digest_82 : decode cX3_digest 82 = .ok (.if_icmp .ge 24, 3) := by decide +kernel
theorem dX3_digest_85 : decode cX3_digest 85 = .ok (.lload_n 1, 1) := by decide +kernel
theorem dX3_digest_86 : decode cX3_digest 86 = .ok (.ldc2_w 171, 3) := by decide +kernel
theorem dX3_digest_89 : decode cX3_digest 89 = .ok (.lmul, 1) := by decide +kernel
theorem dX3_digest_90 : decode cX3_digest 90 = .ok (.aload_n 0, 1) := by decide +kernel
theorem dX3_digest_91 : decode cX3_digest 91 = .ok (.iload_n 3, 1) := by decide +kernel
theorem dX3_digest_92 : decode cX3_digest 92 = .ok (.iload 4, 2) := by decide +kernel
theorem dX3_digest_94 : decode cX3_digest 94 = .ok (.invokevirtual 54, 3) := by decide +kernel
theorem dX3_digest_97 : decode cX3_digest 97 = .ok (.i2l, 1) := by decide +kernel
theorem dX3_digest_98 : decode cX3_digest 98 = .ok (.ladd, 1) := by decide +kernel
theorem dX3_digest_99 : decode cX3_digest 99 = .ok (.lstore_n 1, 1) := by decide +kernel
theorem dX3_digest_100 : decode cX3_digest 100 = .ok (.iinc 4 1, 3) := by decide +kernel
theorem dX3_digest_103 : decode cX3_digest 103 = .ok (.goto (-24), 3) := by decide +kernel
theorem dX3_digest_106 : decode cX3_digest 106 = .ok (.lload_n 1, 1) := by decide +kernel
theorem dX3_digest_107 : decode cX3_digest 107 = .ok (.ldc2_w 171, 3) := by decide +kernel
theorem dX3_digest_110 : decode cX3_digest 110 = .ok (.lmul, 1) := by decide +kernel
theorem dX3_digest_111 : decode cX3_digest 111 = .ok (.aload_n 0, 1) := by decide +kernel
theorem dX3_digest_112 : decode cX3_digest 112 = .ok (.iload_n 3, 1) := by decide +kernel
theorem dX3_digest_113 : decode cX3_digest 113 = .ok (.invokevirtual 117, 3) := by decide +kernel
theorem dX3_digest_116 : decode cX3_digest 116 = .ok (.i2l, 1) := by decide +kernel
theorem dX3_digest_117 : decode cX3_digest 117 = .ok (.ladd, 1) := by decide +kernel
theorem dX3_digest_118 : decode cX3_digest 118 = .ok (.lstore_n 1, 1) := by decide +kernel
theorem dX3_digest_119 : decode cX3_digest 119 = .ok (.iinc 3 1, 3) := by decide +kernel
theorem dX3_digest_122 : decode cX3_digest 122 = .ok (.goto (-54), 3) := by decide +kernel
theorem dX3_digest_125 : decode cX3_digest 125 = .ok (.iconst 0, 1) := by decide +kernel
theorem dX3_digest_126 : decode cX3_digest 126 = .ok (.istore_n 3, 1) := by decide +kernel
theorem dX3_digest_127 : decode cX3_digest 127 = .ok (.iload_n 3, 1) := by decide +kernel
theorem dX3_digest_128 : decode cX3_digest 128 = .ok (.aload_n 0, 1) := by decide +kernel
theorem dX3_digest_129 : decode cX3_digest 129 = .ok (.getfield 48, 3) := by decide +kernel
theorem dX3_digest_132 : decode cX3_digest 132 = .ok (.if_icmp .ge 40, 3) := by decide +kernel
theorem dX3_digest_135 : decode cX3_digest 135 = .ok (.iconst 0, 1) := by decide +kernel
theorem dX3_digest_136 : decode cX3_digest 136 = .ok (.istore 4, 2) := by decide +kernel
theorem dX3_digest_138 : decode cX3_digest 138 = .ok (.iload 4, 2) := by decide +kernel
theorem dX3_digest_140 : decode cX3_digest 140 = .ok (.bipush 9, 2) := by decide +kernel
theorem dX3_digest_142 : decode cX3_digest 142 = .ok (.if_icmp .ge 24, 3) := by decide +kernel
theorem dX3_digest_145 : decode cX3_digest 145 = .ok (.lload_n 1, 1) := by decide +kernel
theorem dX3_digest_146 : decode cX3_digest 146 = .ok (.ldc2_w 171, 3) := by decide +kernel
theorem dX3_digest_149 : decode cX3_digest 149 = .ok (.lmul, 1) := by decide +kernel
theorem dX3_digest_150 : decode cX3_digest 150 = .ok (.aload_n 0, 1) := by decide +kernel
theorem dX3_digest_151 : decode cX3_digest 151 = .ok (.iload_n 3, 1) := by decide +kernel
theorem dX3_digest_152 : decode cX3_digest 152 = .ok (.iload 4, 2) := by decide +kernel
theorem dX3_digest_154 : decode cX3_digest 154 = .ok (.invokevirtual 111, 3) := by decide +kernel
theorem dX3_digest_157 : decode cX3_digest 157 = .ok (.i2l, 1) := by decide +kernel
theorem dX3_digest_158 : decode cX3_digest 158 = .ok (.ladd, 1) := by decide +kernel
theorem dX3_digest_159 : decode cX3_digest 159 = .ok (.lstore_n 1, 1) := by decide +kernel
theorem dX3_digest_160 : decode cX3_digest 160 = .ok (.iinc 4 1, 3) := by decide +kernel
theorem dX3_digest_163 : decode cX3_digest 163 = .ok (.goto (-25), 3) := by decide +kernel
theorem dX3_digest_166 : decode cX3_digest 166 = .ok (.iinc 3 1, 3) := by decide +kernel
theorem dX3_digest_169 : decode cX3_digest 169 = .ok (.goto (-42), 3) := by decide +kernel
theorem dX3_digest_172 : decode cX3_digest 172 = .ok (.iconst 0, 1) := by decide +kernel
theorem dX3_digest_173 : decode cX3_digest 173 = .ok (.istore_n 3, 1) := by decide +kernel
theorem dX3_digest_174 : decode cX3_digest 174 = .ok (.iload_n 3, 1) := by decide +kernel
theorem dX3_digest_175 : decode cX3_digest 175 = .ok (.aload_n 0, 1) := by decide +kernel
theorem dX3_digest_176 : decode cX3_digest 176 = .ok (.getfield 51, 3) := by decide +kernel
theorem dX3_digest_179 : decode cX3_digest 179 = .ok (.if_icmp .ge 80, 3) := by decide +kernel
theorem dX3_digest_182 : decode cX3_digest 182 = .ok (.iconst 0, 1) := by decide +kernel
theorem dX3_digest_183 : decode cX3_digest 183 = .ok (.istore 4, 2) := by decide +kernel
theorem dX3_digest_185 : decode cX3_digest 185 = .ok (.iload 4, 2) := by decide +kernel
theorem dX3_digest_187 : decode cX3_digest 187 = .ok (.bipush 7, 2) := by decide +kernel
theorem dX3_digest_189 : decode cX3_digest 189 = .ok (.if_icmp .ge 24, 3) := by decide +kernel
theorem dX3_digest_192 : decode cX3_digest 192 = .ok (.lload_n 1, 1) := by decide +kernel
theorem dX3_digest_193 : decode cX3_digest 193 = .ok (.ldc2_w 171, 3) := by decide +kernel
theorem dX3_digest_196 : decode cX3_digest 196 = .ok (.lmul, 1) := by decide +kernel
theorem dX3_digest_197 : decode cX3_digest 197 = .ok (.aload_n 0, 1) := by decide +kernel
theorem dX3_digest_198 : decode cX3_digest 198 = .ok (.iload_n 3, 1) := by decide +kernel
theorem dX3_digest_199 : decode cX3_digest 199 = .ok (.iload 4, 2) := by decide +kernel
theorem dX3_digest_201 : decode cX3_digest 201 = .ok (.invokevirtual 114, 3) := by decide +kernel
theorem dX3_digest_204 : decode cX3_digest 204 = .ok (.i2l, 1) := by decide +kernel
theorem dX3_digest_205 : decode cX3_digest 205 = .ok (.ladd, 1) := by decide +kernel
theorem dX3_digest_206 : decode cX3_digest 206 = .ok (.lstore_n 1, 1) := by decide +kernel
theorem dX3_digest_207 : decode cX3_digest 207 = .ok (.iinc 4 1, 3) := by decide +kernel
theorem dX3_digest_210 : decode cX3_digest 210 = .ok (.goto (-25), 3) := by decide +kernel
theorem dX3_digest_213 : decode cX3_digest 213 = .ok (.iconst 0, 1) := by decide +kernel
theorem dX3_digest_214 : decode cX3_digest 214 = .ok (.istore 4, 2) := by decide +kernel
theorem dX3_digest_216 : decode cX3_digest 216 = .ok (.iload 4, 2) := by decide +kernel
theorem dX3_digest_218 : decode cX3_digest 218 = .ok (.aload_n 0, 1) := by decide +kernel
theorem dX3_digest_219 : decode cX3_digest 219 = .ok (.iload_n 3, 1) := by decide +kernel
theorem dX3_digest_220 : decode cX3_digest 220 = .ok (.iconst 4, 1) := by decide +kernel
theorem dX3_digest_221 : decode cX3_digest 221 = .ok (.invokevirtual 99, 3) := by decide +kernel
theorem dX3_digest_224 : decode cX3_digest 224 = .ok (.if_icmp .ge 29, 3) := by decide +kernel
theorem dX3_digest_227 : decode cX3_digest 227 = .ok (.lload_n 1, 1) := by decide +kernel
theorem dX3_digest_228 : decode cX3_digest 228 = .ok (.ldc2_w 171, 3) := by decide +kernel
theorem dX3_digest_231 : decode cX3_digest 231 = .ok (.lmul, 1) := by decide +kernel
theorem dX3_digest_232 : decode cX3_digest 232 = .ok (.aload_n 0, 1) := by decide +kernel
theorem dX3_digest_233 : decode cX3_digest 233 = .ok (.getfield 25, 3) := by decide +kernel
theorem dX3_digest_236 : decode cX3_digest 236 = .ok (.bipush 10, 2) := by decide +kernel
theorem dX3_digest_238 : decode cX3_digest 238 = .ok (.iload_n 3, 1) := by decide +kernel
theorem dX3_digest_239 : decode cX3_digest 239 = .ok (.imul, 1) := by decide +kernel
theorem dX3_digest_240 : decode cX3_digest 240 = .ok (.iload 4, 2) := by decide +kernel
theorem dX3_digest_242 : decode cX3_digest 242 = .ok (.iadd, 1) := by decide +kernel
theorem dX3_digest_243 : decode cX3_digest 243 = .ok (.iaload, 1) := by decide +kernel
theorem dX3_digest_244 : decode cX3_digest 244 = .ok (.i2l, 1) := by decide +kernel
theorem dX3_digest_245 : decode cX3_digest 245 = .ok (.ladd, 1) := by decide +kernel
theorem dX3_digest_246 : decode cX3_digest 246 = .ok (.lstore_n 1, 1) := by decide +kernel
theorem dX3_digest_247 : decode cX3_digest 247 = .ok (.iinc 4 1, 3) := by decide +kernel
theorem dX3_digest_250 : decode cX3_digest 250 = .ok (.goto (-34), 3) := by decide +kernel
theorem dX3_digest_253 : decode cX3_digest 253 = .ok (.iinc 3 1, 3) := by decide +kernel
theorem dX3_digest_256 : decode cX3_digest 256 = .ok (.goto (-82), 3) := by decide +kernel
theorem dX3_digest_259 : decode cX3_digest 259 = .ok (.aload_n 0, 1) := by decide +kernel
theorem dX3_digest_260 : decode cX3_digest 260 = .ok (.getfield 28, 3) := by decide +kernel
theorem dX3_digest_263 : decode cX3_digest 263 = .ok (.astore_n 3, 1) := by decide +kernel
theorem dX3_digest_264 : decode cX3_digest 264 = .ok (.aload_n 3, 1) := by decide +kernel
theorem dX3_digest_265 : decode cX3_digest 265 = .ok (.arraylength, 1) := by decide +kernel
theorem dX3_digest_266 : decode cX3_digest 266 = .ok (.istore 4, 2) := by decide +kernel
theorem dX3_digest_268 : decode cX3_digest 268 = .ok (.iconst 0, 1) := by decide +kernel
theorem dX3_digest_269 : decode cX3_digest 269 = .ok (.istore 5, 2) := by decide +kernel
theorem dX3_digest_271 : decode cX3_digest 271 = .ok (.iload 5, 2) := by decide +kernel
theorem dX3_digest_273 : decode cX3_digest 273 = .ok (.iload 4, 2) := by decide +kernel
theorem dX3_digest_275 : decode cX3_digest 275 = .ok (.if_icmp .ge 25, 3) := by decide +kernel
theorem dX3_digest_278 : decode cX3_digest 278 = .ok (.aload_n 3, 1) := by decide +kernel
theorem dX3_digest_279 : decode cX3_digest 279 = .ok (.iload 5, 2) := by decide +kernel
theorem dX3_digest_281 : decode cX3_digest 281 = .ok (.iaload, 1) := by decide +kernel
theorem dX3_digest_282 : decode cX3_digest 282 = .ok (.istore 6, 2) := by decide +kernel
theorem dX3_digest_284 : decode cX3_digest 284 = .ok (.lload_n 1, 1) := by decide +kernel
theorem dX3_digest_285 : decode cX3_digest 285 = .ok (.ldc2_w 171, 3) := by decide +kernel
theorem dX3_digest_288 : decode cX3_digest 288 = .ok (.lmul, 1) := by decide +kernel
theorem dX3_digest_289 : decode cX3_digest 289 = .ok (.iload 6, 2) := by decide +kernel
theorem dX3_digest_291 : decode cX3_digest 291 = .ok (.i2l, 1) := by decide +kernel
theorem dX3_digest_292 : decode cX3_digest 292 = .ok (.ladd, 1) := by decide +kernel
theorem dX3_digest_293 : decode cX3_digest 293 = .ok (.lstore_n 1, 1) := by decide +kernel
theorem dX3_digest_294 : decode cX3_digest 294 = .ok (.iinc 5 1, 3) := by decide +kernel
theorem dX3_digest_297 : decode cX3_digest 297 = .ok (.goto (-26), 3) := by decide +kernel
theorem dX3_digest_300 : decode cX3_digest 300 = .ok (.lload_n 1, 1) := by decide +kernel
theorem dX3_digest_301 : decode cX3_digest 301 = .ok (.lreturn, 1) := by decide +kernel
