theorem dX3_init_0 : decode cX3_init 0 = .ok (.aload_n 0, 1) := by decide +kernel
theorem dX3_init_1 : decode cX3_init 1 = .ok (.invokespecial 1, 3) := by decide +kernel
theorem dX3_init_4 : decode cX3_init 4 = .ok (.aload_n 0, 1) := by decide +kernel
theorem dX3_init_5 : decode cX3_init 5 = .ok (.iconst 0, 1) := by decide +kernel
theorem dX3_init_6 : decode cX3_init 6 = .ok (.newarray .int, 2) := by decide +kernel
theorem dX3_init_8 : decode cX3_init 8 = .ok (.putfield 7, 3) := by decide +kernel
theorem dX3_init_11 : decode cX3_init 11 = .ok (.aload_n 0, 1) := by decide +kernel
theorem dX3_init_12 : decode cX3_init 12 = .ok (.iconst 0, 1) := by decide +kernel
theorem dX3_init_13 : decode cX3_init 13 = .ok (.anewarray 13, 3) := by decide +kernel
theorem dX3_init_16 : decode cX3_init 16 = .ok (.putfield 14, 3) := by decide +kernel
theorem dX3_init_19 : decode cX3_init 19 = .ok (.aload_n 0, 1) := by decide +kernel
theorem dX3_init_20 : decode cX3_init 20 = .ok (.iconst 0, 1) := by decide +kernel
theorem dX3_init_21 : decode cX3_init 21 = .ok (.anewarray 13, 3) := by decide +kernel
theorem dX3_init_24 : decode cX3_init 24 = .ok (.putfield 18, 3) := by decide +kernel
theorem dX3_init_27 : decode cX3_init 27 = .ok (.aload_n 0, 1) := by decide +kernel
theorem dX3_init_28 : decode cX3_init 28 = .ok (.iconst 0, 1) := by decide +kernel
theorem dX3_init_29 : decode cX3_init 29 = .ok (.anewarray 13, 3) := by decide +kernel
theorem dX3_init_32 : decode cX3_init 32 = .ok (.putfield 21, 3) := by decide +kernel
theorem dX3_init_35 : decode cX3_init 35 = .ok (.aload_n 0, 1) := by decide +kernel
theorem dX3_init_36 : decode cX3_init 36 = .ok (.iconst 0, 1) := by decide +kernel
theorem dX3_init_37 : decode cX3_init 37 = .ok (.anewarray 13, 3) := by decide +kernel
theorem dX3_init_40 : decode cX3_init 40 = .ok (.putfield 24, 3) := by decide +kernel
theorem dX3_init_43 : decode cX3_init 43 = .ok (.aload_n 0, 1) := by decide +kernel
theorem dX3_init_44 : decode cX3_init 44 = .ok (.bipush 10, 2) := by decide +kernel
theorem dX3_init_46 : decode cX3_init 46 = .ok (.newarray .int, 2) := by decide +kernel
theorem dX3_init_48 : decode cX3_init 48 = .ok (.putfield 27, 3) := by decide +kernel
theorem dX3_init_51 : decode cX3_init 51 = .ok (.aload_n 0, 1) := by decide +kernel
theorem dX3_init_52 : decode cX3_init 52 = .ok (.bipush 12, 2) := by decide +kernel
theorem dX3_init_54 : decode cX3_init 54 = .ok (.bipush 12, 2) := by decide +kernel
theorem dX3_init_56 : decode cX3_init 56 = .ok (.multianewarray 30 2, 4) := by decide +kernel
theorem dX3_init_60 : decode cX3_init 60 = .ok (.putfield 31, 3) := by decide +kernel
theorem dX3_init_63 : decode cX3_init 63 = .ok (.return_, 1) := by decide +kernel
theorem dX3_more_0 : decode cX3_more 0 = .ok (.aload_n 0, 1) := by decide +kernel
theorem dX3_more_1 : decode cX3_more 1 = .ok (.arraylength, 1) := by decide +kernel
theorem dX3_more_2 : decode cX3_more 2 = .ok (.iconst 1, 1) := by decide +kernel
theorem dX3_more_3 : decode cX3_more 3 = .ok (.iadd, 1) := by decide +kernel
theorem dX3_more_4 : decode cX3_more 4 = .ok (.newarray .int, 2) := by decide +kernel
theorem dX3_more_6 : decode cX3_more 6 = .ok (.astore_n 2, 1) := by decide +kernel
theorem dX3_more_7 : decode cX3_more 7 = .ok (.iconst 0, 1) := by decide +kernel
theorem dX3_more_8 : decode cX3_more 8 = .ok (.istore_n 3, 1) := by decide +kernel
theorem dX3_more_9 : decode cX3_more 9 = .ok (.iload_n 3, 1) := by decide +kernel
theorem dX3_more_10 : decode cX3_more 10 = .ok (.aload_n 0, 1) := by decide +kernel
theorem dX3_more_11 : decode cX3_more 11 = .ok (.arraylength, 1) := by decide +kernel
theorem dX3_more_12 : decode cX3_more 12 = .ok (.if_icmp .ge 15, 3) := by decide +kernel
theorem dX3_more_15 : decode cX3_more 15 = .ok (.aload_n 2, 1) := by decide +kernel
theorem dX3_more_16 : decode cX3_more 16 = .ok (.iload_n 3, 1) := by decide +kernel
theorem dX3_more_17 : decode cX3_more 17 = .ok (.aload_n 0, 1) := by decide +kernel
theorem dX3_more_18 : decode cX3_more 18 = .ok (.iload_n 3, 1) := by decide +kernel
theorem dX3_more_19 : decode cX3_more 19 = .ok (.iaload, 1) := by decide +kernel
theorem dX3_more_20 : decode cX3_more 20 = .ok (.iastore, 1) := by decide +kernel
theorem dX3_more_21 : decode cX3_more 21 = .ok (.iinc 3 1, 3) := by decide +kernel
theorem dX3_more_24 : decode cX3_more 24 = .ok (.goto (-15), 3) := by decide +kernel
theorem dX3_more_27 : decode cX3_more 27 = .ok (.aload_n 2, 1) := by decide +kernel
theorem dX3_more_28 : decode cX3_more 28 = .ok (.aload_n 0, 1) := by decide +kernel
theorem dX3_more_29 : decode cX3_more 29 = .ok (.arraylength, 1) := by decide +kernel
theorem dX3_more_30 : decode cX3_more 30 = .ok (.iload_n 1, 1) := by decide +kernel
theorem dX3_more_31 : decode cX3_more 31 = .ok (.iastore, 1) := by decide +kernel
theorem dX3_more_32 : decode cX3_more 32 = .ok (.aload_n 2, 1) := by decide +kernel
theorem dX3_more_33 : decode cX3_more 33 = .ok (.areturn, 1) := by decide +kernel
theorem dX3_more__0 : decode cX3_more_ 0 = .ok (.aload_n 0, 1) := by decide +kernel
theorem dX3_more__1 : decode cX3_more_ 1 = .ok (.arraylength, 1) := by decide +kernel
theorem dX3_more__2 : decode cX3_more_ 2 = .ok (.iconst 1, 1) := by decide +kernel
theorem dX3_more__3 : decode cX3_more_ 3 = .ok (.iadd, 1) := by decide +kernel
theorem dX3_more__4 : decode cX3_more_ 4 = .ok (.anewarray 13, 3) := by decide +kernel
theorem dX3_more__7 : decode cX3_more_ 7 = .ok (.astore_n 2, 1) := by decide +kernel
theorem dX3_more__8 : decode cX3_more_ 8 = .ok (.iconst 0, 1) := by decide +kernel
theorem dX3_more__9 : decode cX3_more_ 9 = .ok (.istore_n 3, 1) := by decide +kernel
theorem dX3_more__10 : decode cX3_more_ 10 = .ok (.iload_n 3, 1) := by decide +kernel
theorem dX3_more__11 : decode cX3_more_ 11 = .ok (.aload_n 0, 1) := by decide +kernel
theorem dX3_more__12 : decode cX3_more_ 12 = .ok (.arraylength, 1) := by decide +kernel
theorem dX3_more__13 : decode cX3_more_ 13 = .ok (.if_icmp .ge 15, 3) := by decide +kernel
theorem dX3_more__16 : decode cX3_more_ 16 = .ok (.aload_n 2, 1) := by decide +kernel
theorem dX3_more__17 : decode cX3_more_ 17 = .ok (.iload_n 3, 1) := by decide +kernel
theorem dX3_more__18 : decode cX3_more_ 18 = .ok (.aload_n 0, 1) := by decide +kernel
theorem dX3_more__19 : decode cX3_more_ 19 = .ok (.iload_n 3, 1) := by decide +kernel
theorem dX3_more__20 : decode cX3_more_ 20 = .ok (.aaload, 1) := by decide +kernel
theorem dX3_more__21 : decode cX3_more_ 21 = .ok (.aastore, 1) := by decide +kernel
theorem dX3_more__22 : decode cX3_more_ 22 = .ok (.iinc 3 1, 3) := by decide +kernel
theorem dX3_more__25 : decode cX3_more_ 25 = .ok (.goto (-15), 3) := by decide +kernel
theorem dX3_more__28 : decode cX3_more_ 28 = .ok (.aload_n 2, 1) := by decide +kernel
theorem dX3_more__29 : decode cX3_more_ 29 = .ok (.aload_n 0, 1) := by decide +kernel
theorem dX3_more__30 : decode cX3_more_ 30 = .ok (.arraylength, 1) := by decide +kernel
theorem dX3_more__31 : decode cX3_more_ 31 = .ok (.aload_n 1, 1) := by decide +kernel
theorem dX3_more__32 : decode cX3_more_ 32 = .ok (.aastore, 1) := by decide +kernel
theorem dX3_more__33 : decode cX3_more_ 33 = .ok (.aload_n 2, 1) := by decide +kernel
theorem dX3_more__34 : decode cX3_more_ 34 = .ok (.areturn, 1) := by decide +kernel
theorem dX3_climb_0 : decode cX3_climb 0 = .ok (.aload_n 0, 1) := by decide +kernel
theorem dX3_climb_1 : decode cX3_climb 1 = .ok (.getfield 7, 3) := by decide +kernel
theorem dX3_climb_4 : decode cX3_climb 4 = .ok (.iload_n 2, 1) := by decide +kernel
theorem dX3_climb_5 : decode cX3_climb 5 = .ok (.iaload, 1) := by decide +kernel
theorem dX3_climb_6 : decode cX3_climb 6 = .ok (.aload_n 0, 1) := by decide +kernel
theorem dX3_climb_7 : decode cX3_climb 7 = .ok (.getfield 7, 3) := by decide +kernel
theorem dX3_climb_10 : decode cX3_climb 10 = .ok (.iload_n 1, 1) := by decide +kernel
theorem dX3_climb_11 : decode cX3_climb 11 = .ok (.iaload, 1) := by decide +kernel
theorem dX3_climb_12 : decode cX3_climb 12 = .ok (.if_icmp .le 21, 3) := by decide +kernel
theorem dX3_climb_15 : decode cX3_climb 15 = .ok (.aload_n 0, 1) := by decide +kernel
theorem dX3_climb_16 : decode cX3_climb 16 = .ok (.getfield 7, 3) := by decide +kernel
theorem dX3_climb_19 : decode cX3_climb 19 = .ok (.iload_n 2, 1) := by decide +kernel
theorem dX3_climb_20 : decode cX3_climb 20 = .ok (.iaload, 1) := by decide +kernel
theorem dX3_climb_21 : decode cX3_climb 21 = .ok (.aload_n 0, 1) := by decide +kernel
theorem dX3_climb_22 : decode cX3_climb 22 = .ok (.getfield 7, 3) := by decide +kernel
theorem dX3_climb_25 : decode cX3_climb 25 = .ok (.iload_n 1, 1) := by decide +kernel
theorem dX3_climb_26 : decode cX3_climb 26 = .ok (.iaload, 1) := by decide +kernel
theorem dX3_climb_27 : decode cX3_climb 27 = .ok (.isub, 1) := by decide +kernel
theorem dX3_climb_28 : decode cX3_climb 28 = .ok (.iconst 2, 1) := by decide +kernel
theorem dX3_climb_29 : decode cX3_climb 29 = .ok (.idiv, 1) := by decide +kernel
theorem dX3_climb_30 : decode cX3_climb 30 = .ok (.goto 4, 3) := by decide +kernel
theorem dX3_climb_33 : decode cX3_climb 33 = .ok (.iconst 0, 1) := by decide +kernel
theorem dX3_climb_34 : decode cX3_climb 34 = .ok (.ireturn, 1) := by decide +kernel
set_option maxRecDepth 20000 in
theorem ggX3_measure_X3_climb : GoodIn wsX3_measure wsX3_climb := goodIn_r _ [8, 1, 9, 10, 11, 12, 13, 14, 15, 16, 17, 18] (by decide +kernel) (by decide +kernel)
set_option maxRecDepth 20000 in
theorem gX3_measure_X3_climb : GoodIn wsX3_measure (wsV RX3 43 RX3 yX3_climb wsX3_climb) := goodIn_app (goodIn_of _ (by decide +kernel)) ggX3_measure_X3_climb
theorem dX3_measure_0 : decode cX3_measure 0 = .ok (.aload_n 0, 1) := by decide +kernel
theorem dX3_measure_1 : decode cX3_measure 1 = .ok (.getfield 7, 3) := by decide +kernel
theorem dX3_measure_4 : decode cX3_measure 4 = .ok (.arraylength, 1) := by decide +kernel
theorem dX3_measure_5 : decode cX3_measure 5 = .ok (.istore_n 1, 1) := by decide +kernel
theorem dX3_measure_6 : decode cX3_measure 6 = .ok (.iconst 0, 1) := by decide +kernel
theorem dX3_measure_7 : decode cX3_measure 7 = .ok (.istore_n 2, 1) := by decide +kernel
theorem dX3_measure_8 : decode cX3_measure 8 = .ok (.iload_n 2, 1) := by decide +kernel
theorem dX3_measure_9 : decode cX3_measure 9 = .ok (.iload_n 1, 1) := by decide +kernel
theorem dX3_measure_10 : decode cX3_measure 10 = .ok (.if_icmp .ge 42, 3) := by decide +kernel
theorem dX3_measure_13 : decode cX3_measure 13 = .ok (.iconst 0, 1) := by decide +kernel
theorem dX3_measure_14 : decode cX3_measure 14 = .ok (.istore_n 3, 1) := by decide +kernel
theorem dX3_measure_15 : decode cX3_measure 15 = .ok (.iload_n 3, 1) := by decide +kernel
theorem dX3_measure_16 : decode cX3_measure 16 = .ok (.iload_n 1, 1) := by decide +kernel
theorem dX3_measure_17 : decode cX3_measure 17 = .ok (.if_icmp .ge 29, 3) := by decide +kernel
theorem dX3_measure_20 : decode cX3_measure 20 = .ok (.aload_n 0, 1) := by decide +kernel
theorem dX3_measure_21 : decode cX3_measure 21 = .ok (.getfield 31, 3) := by decide +kernel
theorem dX3_measure_24 : decode cX3_measure 24 = .ok (.iload_n 2, 1) := by decide +kernel
theorem dX3_measure_25 : decode cX3_measure 25 = .ok (.aaload, 1) := by decide +kernel
theorem dX3_measure_26 : decode cX3_measure 26 = .ok (.iload_n 3, 1) := by decide +kernel
theorem dX3_measure_27 : decode cX3_measure 27 = .ok (.iload_n 2, 1) := by decide +kernel
theorem dX3_measure_28 : decode cX3_measure 28 = .ok (.iload_n 3, 1) := by decide +kernel
theorem dX3_measure_29 : decode cX3_measure 29 = .ok (.if_icmp .ne 7, 3) := by decide +kernel
theorem dX3_measure_32 : decode cX3_measure 32 = .ok (.iconst 0, 1) := by decide +kernel
theorem dX3_measure_33 : decode cX3_measure 33 = .ok (.goto 6, 3) := by decide +kernel
theorem dX3_measure_36 : decode cX3_measure 36 = .ok (.sipush 1000, 3) := by decide +kernel
theorem dX3_measure_39 : decode cX3_measure 39 = .ok (.iastore, 1) := by decide +kernel
theorem dX3_measure_40 : decode cX3_measure 40 = .ok (.iinc 3 1, 3) := by decide +kernel
theorem dX3_measure_43 : decode cX3_measure 43 = .ok (.goto (-28), 3) := by decide +kernel
theorem dX3_measure_46 : decode cX3_measure 46 = .ok (.iinc 2 1, 3) := by decide +kernel
theorem dX3_measure_49 : decode cX3_measure 49 = .ok (.goto (-41), 3) := by decide +kernel
theorem dX3_measure_52 : decode cX3_measure 52 = .ok (.iconst 1, 1) := by decide +kernel
theorem dX3_measure_53 : decode cX3_measure 53 = .ok (.istore_n 2, 1) := by decide +kernel
theorem dX3_measure_54 : decode cX3_measure 54 = .ok (.iload_n 2, 1) := by decide +kernel
theorem dX3_measure_55 : decode cX3_measure 55 = .ok (.ifCond .eq 184, 3) := by decide +kernel
theorem dX3_measure_58 : decode cX3_measure 58 = .ok (.iconst 0, 1) := by decide +kernel
theorem dX3_measure_59 : decode cX3_measure 59 = .ok (.istore_n 2, 1) := by decide +kernel
theorem dX3_measure_60 : decode cX3_measure 60 = .ok (.aload_n 0, 1) := by decide +kernel
theorem dX3_measure_61 : decode cX3_measure 61 = .ok (.getfield 14, 3) := by decide +kernel
theorem dX3_measure_64 : decode cX3_measure 64 = .ok (.astore_n 3, 1) := by decide +kernel
theorem dX3_measure_65 : decode cX3_measure 65 = .ok (.aload_n 3, 1) := by decide +kernel
theorem dX3_measure_66 : decode cX3_measure 66 = .ok (.arraylength, 1) := by decide +kernel
theorem dX3_measure_67 : decode cX3_measure 67 = .ok (.istore 4, 2) := by decide +kernel
theorem dX3_measure_69 : decode cX3_measure 69 = .ok (.iconst 0, 1) := by decide +kernel
theorem dX3_measure_70 : decode cX3_measure 70 = .ok (.istore 5, 2) := by decide +kernel
theorem dX3_measure_72 : decode cX3_measure 72 = .ok (.iload 5, 2) := by decide +kernel
theorem dX3_measure_74 : decode cX3_measure 74 = .ok (.iload 4, 2) := by decide +kernel
theorem dX3_measure_76 : decode cX3_measure 76 = .ok (.if_icmp .ge 160, 3) := by decide +kernel
theorem dX3_measure_79 : decode cX3_measure 79 = .ok (.aload_n 3, 1) := by decide +kernel
theorem dX3_measure_80 : decode cX3_measure 80 = .ok (.iload 5, 2) := by decide +kernel
theorem dX3_measure_82 : decode cX3_measure 82 = .ok (.aaload, 1) := by decide +kernel
theorem dX3_measure_83 : decode cX3_measure 83 = .ok (.astore 6, 2) := by decide +kernel
theorem dX3_measure_85 : decode cX3_measure 85 = .ok (.iconst 0, 1) := by decide +kernel
theorem dX3_measure_86 : decode cX3_measure 86 = .ok (.istore 7, 2) := by decide +kernel
theorem dX3_measure_88 : decode cX3_measure 88 = .ok (.iload 7, 2) := by decide +kernel
theorem dX3_measure_90 : decode cX3_measure 90 = .ok (.iload_n 1, 1) := by decide +kernel
theorem dX3_measure_91 : decode cX3_measure 91 = .ok (.if_icmp .ge 139, 3) := by decide +kernel
theorem dX3_measure_94 : decode cX3_measure 94 = .ok (.aload_n 0, 1) := by decide +kernel
theorem dX3_measure_95 : decode cX3_measure 95 = .ok (.getfield 31, 3) := by decide +kernel
theorem dX3_measure_98 : decode cX3_measure 98 = .ok (.iload 7, 2) := by decide +kernel
theorem dX3_measure_100 : decode cX3_measure 100 = .ok (.aaload, 1) := by decide +kernel
theorem dX3_measure_101 : decode cX3_measure 101 = .ok (.aload 6, 2) := by decide +kernel
theorem dX3_measure_103 : decode cX3_measure 103 = .ok (.iconst 0, 1) := by decide +kernel
theorem dX3_measure_104 : decode cX3_measure 104 = .ok (.iaload, 1) := by decide +kernel
theorem dX3_measure_105 : decode cX3_measure 105 = .ok (.iaload, 1) := by decide +kernel
theorem dX3_measure_106 : decode cX3_measure 106 = .ok (.aload 6, 2) := by decide +kernel
theorem dX3_measure_108 : decode cX3_measure 108 = .ok (.iconst 2, 1) := by decide +kernel
theorem dX3_measure_109 : decode cX3_measure 109 = .ok (.iaload, 1) := by decide +kernel
theorem dX3_measure_110 : decode cX3_measure 110 = .ok (.iadd, 1) := by decide +kernel
theorem dX3_measure_111 : decode cX3_measure 111 = .ok (.aload_n 0, 1) := by decide +kernel
theorem dX3_measure_112 : decode cX3_measure 112 = .ok (.aload 6, 2) := by decide +kernel
theorem dX3_measure_114 : decode cX3_measure 114 = .ok (.iconst 0, 1) := by decide +kernel
theorem dX3_measure_115 : decode cX3_measure 115 = .ok (.iaload, 1) := by decide +kernel
theorem dX3_measure_116 : decode cX3_measure 116 = .ok (.aload 6, 2) := by decide +kernel
theorem dX3_measure_118 : decode cX3_measure 118 = .ok (.iconst 1, 1) := by decide +kernel
theorem dX3_measure_119 : decode cX3_measure 119 = .ok (.iaload, 1) := by decide +kernel
theorem dX3_measure_120 : decode cX3_measure 120 = .ok (.invokevirtual 43, 3) := by decide +kernel
theorem dX3_measure_123 : decode cX3_measure 123 = .ok (.iadd, 1) := by decide +kernel
theorem dX3_measure_124 : decode cX3_measure 124 = .ok (.istore 8, 2) := by decide +kernel
theorem dX3_measure_126 : decode cX3_measure 126 = .ok (.aload_n 0, 1) := by decide +kernel
theorem dX3_measure_127 : decode cX3_measure 127 = .ok (.getfield 31, 3) := by decide +kernel
theorem dX3_measure_130 : decode cX3_measure 130 = .ok (.iload 7, 2) := by decide +kernel
theorem dX3_measure_132 : decode cX3_measure 132 = .ok (.aaload, 1) := by decide +kernel
theorem dX3_measure_133 : decode cX3_measure 133 = .ok (.aload 6, 2) := by decide +kernel
theorem dX3_measure_135 : decode cX3_measure 135 = .ok (.iconst 1, 1) := by decide +kernel
theorem dX3_measure_136 : decode cX3_measure 136 = .ok (.iaload, 1) := by decide +kernel
theorem dX3_measure_137 : decode cX3_measure 137 = .ok (.iaload, 1) := by decide +kernel
theorem dX3_measure_138 : decode cX3_measure 138 = .ok (.aload 6, 2) := by decide +kernel
theorem dX3_measure_140 : decode cX3_measure 140 = .ok (.iconst 2, 1) := by decide +kernel
theorem dX3_measure_141 : decode cX3_measure 141 = .ok (.iaload, 1) := by decide +kernel
theorem dX3_measure_142 : decode cX3_measure 142 = .ok (.iadd, 1) := by decide +kernel
theorem dX3_measure_143 : decode cX3_measure 143 = .ok (.aload_n 0, 1) := by decide +kernel
theorem dX3_measure_144 : decode cX3_measure 144 = .ok (.aload 6, 2) := by decide +kernel
theorem dX3_measure_146 : decode cX3_measure 146 = .ok (.iconst 1, 1) := by decide +kernel
theorem dX3_measure_147 : decode cX3_measure 147 = .ok (.iaload, 1) := by decide +kernel
theorem dX3_measure_148 : decode cX3_measure 148 = .ok (.aload 6, 2) := by decide +kernel
theorem dX3_measure_150 : decode cX3_measure 150 = .ok (.iconst 0, 1) := by decide +kernel
theorem dX3_measure_151 : decode cX3_measure 151 = .ok (.iaload, 1) := by decide +kernel
theorem dX3_measure_152 : decode cX3_measure 152 = .ok (.invokevirtual 43, 3) := by decide +kernel
theorem dX3_measure_155 : decode cX3_measure 155 = .ok (.iadd, 1) := by decide +kernel
theorem dX3_measure_156 : decode cX3_measure 156 = .ok (.istore 9, 2) := by decide +kernel
theorem dX3_measure_158 : decode cX3_measure 158 = .ok (.iload 8, 2) := by decide +kernel
theorem dX3_measure_160 : decode cX3_measure 160 = .ok (.aload_n 0, 1) := by decide +kernel
theorem dX3_measure_161 : decode cX3_measure 161 = .ok (.getfield 31, 3) := by decide +kernel
theorem dX3_measure_164 : decode cX3_measure 164 = .ok (.iload 7, 2) := by decide +kernel
theorem dX3_measure_166 : decode cX3_measure 166 = .ok (.aaload, 1) := by decide +kernel
theorem dX3_measure_167 : decode cX3_measure 167 = .ok (.aload 6, 2) := by decide +kernel
theorem dX3_measure_169 : decode cX3_measure 169 = .ok (.iconst 1, 1) := by decide +kernel
theorem dX3_measure_170 : decode cX3_measure 170 = .ok (.iaload, 1) := by decide +kernel
theorem dX3_measure_171 : decode cX3_measure 171 = .ok (.iaload, 1) := by decide +kernel
theorem dX3_measure_172 : decode cX3_measure 172 = .ok (.if_icmp .ge 19, 3) := by decide +kernel
theorem dX3_measure_175 : decode cX3_measure 175 = .ok (.aload_n 0, 1) := by decide +kernel
theorem dX3_measure_176 : decode cX3_measure 176 = .ok (.getfield 31, 3) := by decide +kernel
theorem dX3_measure_179 : decode cX3_measure 179 = .ok (.iload 7, 2) := by decide +kernel
theorem dX3_measure_181 : decode cX3_measure 181 = .ok (.aaload, 1) := by decide +kernel
theorem dX3_measure_182 : decode cX3_measure 182 = .ok (.aload 6, 2) := by decide +kernel
theorem dX3_measure_184 : decode cX3_measure 184 = .ok (.iconst 1, 1) := by decide +kernel
theorem dX3_measure_185 : decode cX3_measure 185 = .ok (.iaload, 1) := by decide +kernel
theorem dX3_measure_186 : decode cX3_measure 186 = .ok (.iload 8, 2) := by decide +kernel
theorem dX3_measure_188 : decode cX3_measure 188 = .ok (.iastore, 1) := by decide +kernel
theorem dX3_measure_189 : decode cX3_measure 189 = .ok (.iconst 1, 1) := by decide +kernel
theorem dX3_measure_190 : decode cX3_measure 190 = .ok (.istore_n 2, 1) := by decide +kernel
theorem dX3_measure_191 : decode cX3_measure 191 = .ok (.iload 9, 2) := by decide +kernel
theorem dX3_measure_193 : decode cX3_measure 193 = .ok (.aload_n 0, 1) := by decide +kernel
theorem dX3_measure_194 : decode cX3_measure 194 = .ok (.getfield 31, 3) := by decide +kernel
theorem dX3_measure_197 : decode cX3_measure 197 = .ok (.iload 7, 2) := by decide +kernel
theorem dX3_measure_199 : decode cX3_measure 199 = .ok (.aaload, 1) := by decide +kernel
theorem dX3_measure_200 : decode cX3_measure 200 = .ok (.aload 6, 2) := by decide +kernel
theorem dX3_measure_202 : decode cX3_measure 202 = .ok (.iconst 0, 1) := by decide +kernel
theorem dX3_measure_203 : decode cX3_measure 203 = .ok (.iaload, 1) := by decide +kernel
theorem dX3_measure_204 : decode cX3_measure 204 = .ok (.iaload, 1) := by decide +kernel
theorem dX3_measure_205 : decode cX3_measure 205 = .ok (.if_icmp .ge 19, 3) := by decide +kernel
theorem dX3_measure_208 : decode cX3_measure 208 = .ok (.aload_n 0, 1) := by decide +kernel
theorem dX3_measure_209 : decode cX3_measure 209 = .ok (.getfield 31, 3) := by decide +kernel
theorem dX3_measure_212 : decode cX3_measure 212 = .ok (.iload 7, 2) := by decide +kernel
theorem dX3_measure_214 : decode cX3_measure 214 = .ok (.aaload, 1) := by decide +kernel
theorem dX3_measure_215 : decode cX3_measure 215 = .ok (.aload 6, 2) := by decide +kernel
theorem dX3_measure_217 : decode cX3_measure 217 = .ok (.iconst 0, 1) := by decide +kernel
theorem dX3_measure_218 : decode cX3_measure 218 = .ok (.iaload, 1) := by decide +kernel
theorem dX3_measure_219 : decode cX3_measure 219 = .ok (.iload 9, 2) := by decide +kernel
theorem dX3_measure_221 : decode cX3_measure 221 = .ok (.iastore, 1) := by decide +kernel
theorem dX3_measure_222 : decode cX3_measure 222 = .ok (.iconst 1, 1) := by decide +kernel
theorem dX3_measure_223 : decode cX3_measure 223 = .ok (.istore_n 2, 1) := by decide +kernel
theorem dX3_measure_224 : decode cX3_measure 224 = .ok (.iinc 7 1, 3) := by decide +kernel
theorem dX3_measure_227 : decode cX3_measure 227 = .ok (.goto (-139), 3) := by decide +kernel
theorem dX3_measure_230 : decode cX3_measure 230 = .ok (.iinc 5 1, 3) := by decide +kernel
theorem dX3_measure_233 : decode cX3_measure 233 = .ok (.goto (-161), 3) := by decide +kernel
theorem dX3_measure_236 : decode cX3_measure 236 = .ok (.goto (-182), 3) := by decide +kernel
theorem dX3_measure_239 : decode cX3_measure 239 = .ok (.return_, 1) := by decide +kernel
theorem dX3_goer_0 : decode cX3_goer 0 = .ok (.iconst 0, 1) := by decide +kernel
theorem dX3_goer_1 : decode cX3_goer 1 = .ok (.istore_n 2, 1) := by decide +kernel
theorem dX3_goer_2 : decode cX3_goer 2 = .ok (.iload_n 2, 1) := by decide +kernel
theorem dX3_goer_3 : decode cX3_goer 3 = .ok (.aload_n 0, 1) := by decide +kernel
theorem dX3_goer_4 : decode cX3_goer 4 = .ok (.getfield 21, 3) := by decide +kernel
theorem dX3_goer_7 : decode cX3_goer 7 = .ok (.arraylength, 1) := by decide +kernel
theorem dX3_goer_8 : decode cX3_goer 8 = .ok (.if_icmp .ge 23, 3) := by decide +kernel
theorem dX3_goer_11 : decode cX3_goer 11 = .ok (.aload_n 0, 1) := by decide +kernel
theorem dX3_goer_12 : decode cX3_goer 12 = .ok (.getfield 21, 3) := by decide +kernel
theorem dX3_goer_15 : decode cX3_goer 15 = .ok (.iload_n 2, 1) := by decide +kernel
theorem dX3_goer_16 : decode cX3_goer 16 = .ok (.aaload, 1) := by decide +kernel
theorem dX3_goer_17 : decode cX3_goer 17 = .ok (.iconst 4, 1) := by decide +kernel
theorem dX3_goer_18 : decode cX3_goer 18 = .ok (.iaload, 1) := by decide +kernel
theorem dX3_goer_19 : decode cX3_goer 19 = .ok (.iload_n 1, 1) := by decide +kernel
theorem dX3_goer_20 : decode cX3_goer 20 = .ok (.if_icmp .ne 5, 3) := by decide +kernel
theorem dX3_goer_23 : decode cX3_goer 23 = .ok (.iload_n 2, 1) := by decide +kernel
theorem dX3_goer_24 : decode cX3_goer 24 = .ok (.ireturn, 1) := by decide +kernel
theorem dX3_goer_25 : decode cX3_goer 25 = .ok (.iinc 2 1, 3) := by decide +kernel
theorem dX3_goer_28 : decode cX3_goer 28 = .ok (.goto (-26), 3) := by decide +kernel
theorem dX3_goer_31 : decode cX3_goer 31 = .ok (.iconst (-1), 1) := by decide +kernel
theorem dX3_goer_32 : decode cX3_goer 32 = .ok (.ireturn, 1) := by decide +kernel
theorem dX3_burning_0 : decode cX3_burning 0 = .ok (.iconst 0, 1) := by decide +kernel
theorem dX3_burning_1 : decode cX3_burning 1 = .ok (.istore_n 2, 1) := by decide +kernel
theorem dX3_burning_2 : decode cX3_burning 2 = .ok (.aload_n 0, 1) := by decide +kernel
theorem dX3_burning_3 : decode cX3_burning 3 = .ok (.getfield 18, 3) := by decide +kernel
theorem dX3_burning_6 : decode cX3_burning 6 = .ok (.astore_n 3, 1) := by decide +kernel
theorem dX3_burning_7 : decode cX3_burning 7 = .ok (.aload_n 3, 1) := by decide +kernel
theorem dX3_burning_8 : decode cX3_burning 8 = .ok (.arraylength, 1) := by decide +kernel
theorem dX3_burning_9 : decode cX3_burning 9 = .ok (.istore 4, 2) := by decide +kernel
theorem dX3_burning_11 : decode cX3_burning 11 = .ok (.iconst 0, 1) := by decide +kernel
theorem dX3_burning_12 : decode cX3_burning 12 = .ok (.istore 5, 2) := by decide +kernel
theorem dX3_burning_14 : decode cX3_burning 14 = .ok (.iload 5, 2) := by decide +kernel
theorem dX3_burning_16 : decode cX3_burning 16 = .ok (.iload 4, 2) := by decide +kernel
theorem dX3_burning_18 : decode cX3_burning 18 = .ok (.if_icmp .ge 34, 3) := by decide +kernel
theorem dX3_burning_21 : decode cX3_burning 21 = .ok (.aload_n 3, 1) := by decide +kernel
theorem dX3_burning_22 : decode cX3_burning 22 = .ok (.iload 5, 2) := by decide +kernel
theorem dX3_burning_24 : decode cX3_burning 24 = .ok (.aaload, 1) := by decide +kernel
theorem dX3_burning_25 : decode cX3_burning 25 = .ok (.astore 6, 2) := by decide +kernel
theorem dX3_burning_27 : decode cX3_burning 27 = .ok (.iload_n 2, 1) := by decide +kernel
theorem dX3_burning_28 : decode cX3_burning 28 = .ok (.aload 6, 2) := by decide +kernel
theorem dX3_burning_30 : decode cX3_burning 30 = .ok (.iconst 0, 1) := by decide +kernel
theorem dX3_burning_31 : decode cX3_burning 31 = .ok (.iaload, 1) := by decide +kernel
theorem dX3_burning_32 : decode cX3_burning 32 = .ok (.iload_n 1, 1) := by decide +kernel
theorem dX3_burning_33 : decode cX3_burning 33 = .ok (.if_icmp .ne 10, 3) := by decide +kernel
theorem dX3_burning_36 : decode cX3_burning 36 = .ok (.aload 6, 2) := by decide +kernel
theorem dX3_burning_38 : decode cX3_burning 38 = .ok (.iconst 5, 1) := by decide +kernel
theorem dX3_burning_39 : decode cX3_burning 39 = .ok (.iaload, 1) := by decide +kernel
theorem dX3_burning_40 : decode cX3_burning 40 = .ok (.goto 4, 3) := by decide +kernel
theorem dX3_burning_43 : decode cX3_burning 43 = .ok (.iconst 0, 1) := by decide +kernel
theorem dX3_burning_44 : decode cX3_burning 44 = .ok (.iadd, 1) := by decide +kernel
theorem dX3_burning_45 : decode cX3_burning 45 = .ok (.istore_n 2, 1) := by decide +kernel
theorem dX3_burning_46 : decode cX3_burning 46 = .ok (.iinc 5 1, 3) := by decide +kernel
theorem dX3_burning_49 : decode cX3_burning 49 = .ok (.goto (-35), 3) := by decide +kernel
theorem dX3_burning_52 : decode cX3_burning 52 = .ok (.iload_n 2, 1) := by decide +kernel
theorem dX3_burning_53 : decode cX3_burning 53 = .ok (.ireturn, 1) := by decide +kernel
set_option maxRecDepth 20000 in
theorem ggX3_look_X3_goer : GoodIn wsX3_look wsX3_goer := goodIn_r _ [10, 1, 11, 12, 13, 14, 15, 16, 17, 18, 19, 20] (by decide +kernel) (by decide +kernel)
set_option maxRecDepth 20000 in
theorem gX3_look_X3_goer : GoodIn wsX3_look (wsV RX3 47 RX3 yX3_goer wsX3_goer) := goodIn_app (goodIn_of _ (by decide +kernel)) ggX3_look_X3_goer
theorem dX3_look_0 : decode cX3_look 0 = .ok (.aload_n 0, 1) := by decide +kernel
theorem dX3_look_1 : decode cX3_look 1 = .ok (.getfield 21, 3) := by decide +kernel
theorem dX3_look_4 : decode cX3_look 4 = .ok (.iload_n 1, 1) := by decide +kernel
theorem dX3_look_5 : decode cX3_look 5 = .ok (.aaload, 1) := by decide +kernel
theorem dX3_look_6 : decode cX3_look 6 = .ok (.astore_n 2, 1) := by decide +kernel
theorem dX3_look_7 : decode cX3_look 7 = .ok (.aload_n 0, 1) := by decide +kernel
theorem dX3_look_8 : decode cX3_look 8 = .ok (.getfield 24, 3) := by decide +kernel
theorem dX3_look_11 : decode cX3_look 11 = .ok (.iload_n 1, 1) := by decide +kernel
theorem dX3_look_12 : decode cX3_look 12 = .ok (.aaload, 1) := by decide +kernel
theorem dX3_look_13 : decode cX3_look 13 = .ok (.astore_n 3, 1) := by decide +kernel
theorem dX3_look_14 : decode cX3_look 14 = .ok (.iconst 0, 1) := by decide +kernel
theorem dX3_look_15 : decode cX3_look 15 = .ok (.istore 4, 2) := by decide +kernel
theorem dX3_look_17 : decode cX3_look 17 = .ok (.iload 4, 2) := by decide +kernel
theorem dX3_look_19 : decode cX3_look 19 = .ok (.aload_n 3, 1) := by decide +kernel
theorem dX3_look_20 : decode cX3_look 20 = .ok (.arraylength, 1) := by decide +kernel
theorem dX3_look_21 : decode cX3_look 21 = .ok (.if_icmp .ge 191, 3) := by decide +kernel
theorem dX3_look_24 : decode cX3_look 24 = .ok (.aload_n 2, 1) := by decide +kernel
theorem dX3_look_25 : decode cX3_look 25 = .ok (.bipush 7, 2) := by decide +kernel
theorem dX3_look_27 : decode cX3_look 27 = .ok (.iaload, 1) := by decide +kernel
theorem dX3_look_28 : decode cX3_look 28 = .ok (.iconst 1, 1) := by decide +kernel
theorem dX3_look_29 : decode cX3_look 29 = .ok (.iadd, 1) := by decide +kernel
theorem dX3_look_30 : decode cX3_look 30 = .ok (.iload 4, 2) := by decide +kernel
theorem dX3_look_32 : decode cX3_look 32 = .ok (.iadd, 1) := by decide +kernel
theorem dX3_look_33 : decode cX3_look 33 = .ok (.aload_n 3, 1) := by decide +kernel
theorem dX3_look_34 : decode cX3_look 34 = .ok (.arraylength, 1) := by decide +kernel
theorem dX3_look_35 : decode cX3_look 35 = .ok (.irem, 1) := by decide +kernel
theorem dX3_look_36 : decode cX3_look 36 = .ok (.istore 5, 2) := by decide +kernel
theorem dX3_look_38 : decode cX3_look 38 = .ok (.aload_n 0, 1) := by decide +kernel
theorem dX3_look_39 : decode cX3_look 39 = .ok (.getfield 18, 3) := by decide +kernel
theorem dX3_look_42 : decode cX3_look 42 = .ok (.aload_n 3, 1) := by decide +kernel
theorem dX3_look_43 : decode cX3_look 43 = .ok (.iload 5, 2) := by decide +kernel
theorem dX3_look_45 : decode cX3_look 45 = .ok (.iaload, 1) := by decide +kernel
theorem dX3_look_46 : decode cX3_look 46 = .ok (.aaload, 1) := by decide +kernel
theorem dX3_look_47 : decode cX3_look 47 = .ok (.astore 6, 2) := by decide +kernel
theorem dX3_look_49 : decode cX3_look 49 = .ok (.aload_n 0, 1) := by decide +kernel
theorem dX3_look_50 : decode cX3_look 50 = .ok (.getfield 14, 3) := by decide +kernel
theorem dX3_look_53 : decode cX3_look 53 = .ok (.aload 6, 2) := by decide +kernel
theorem dX3_look_55 : decode cX3_look 55 = .ok (.iconst 0, 1) := by decide +kernel
theorem dX3_look_56 : decode cX3_look 56 = .ok (.iaload, 1) := by decide +kernel
theorem dX3_look_57 : decode cX3_look 57 = .ok (.aaload, 1) := by decide +kernel
theorem dX3_look_58 : decode cX3_look 58 = .ok (.astore 7, 2) := by decide +kernel
theorem dX3_look_60 : decode cX3_look 60 = .ok (.aload_n 0, 1) := by decide +kernel
theorem dX3_look_61 : decode cX3_look 61 = .ok (.getfield 31, 3) := by decide +kernel
theorem dX3_look_64 : decode cX3_look 64 = .ok (.aload_n 2, 1) := by decide +kernel
theorem dX3_look_65 : decode cX3_look 65 = .ok (.iconst 1, 1) := by decide +kernel
theorem dX3_look_66 : decode cX3_look 66 = .ok (.iaload, 1) := by decide +kernel
theorem dX3_look_67 : decode cX3_look 67 = .ok (.aaload, 1) := by decide +kernel
theorem dX3_look_68 : decode cX3_look 68 = .ok (.aload 7, 2) := by decide +kernel
theorem dX3_look_70 : decode cX3_look 70 = .ok (.iconst 0, 1) := by decide +kernel
theorem dX3_look_71 : decode cX3_look 71 = .ok (.iaload, 1) := by decide +kernel
theorem dX3_look_72 : decode cX3_look 72 = .ok (.iaload, 1) := by decide +kernel
theorem dX3_look_73 : decode cX3_look 73 = .ok (.istore 8, 2) := by decide +kernel
theorem dX3_look_75 : decode cX3_look 75 = .ok (.aload_n 0, 1) := by decide +kernel
theorem dX3_look_76 : decode cX3_look 76 = .ok (.getfield 31, 3) := by decide +kernel
theorem dX3_look_79 : decode cX3_look 79 = .ok (.aload_n 2, 1) := by decide +kernel
theorem dX3_look_80 : decode cX3_look 80 = .ok (.iconst 1, 1) := by decide +kernel
theorem dX3_look_81 : decode cX3_look 81 = .ok (.iaload, 1) := by decide +kernel
theorem dX3_look_82 : decode cX3_look 82 = .ok (.aaload, 1) := by decide +kernel
theorem dX3_look_83 : decode cX3_look 83 = .ok (.aload 7, 2) := by decide +kernel
theorem dX3_look_85 : decode cX3_look 85 = .ok (.iconst 1, 1) := by decide +kernel
theorem dX3_look_86 : decode cX3_look 86 = .ok (.iaload, 1) := by decide +kernel
theorem dX3_look_87 : decode cX3_look 87 = .ok (.iaload, 1) := by decide +kernel
theorem dX3_look_88 : decode cX3_look 88 = .ok (.istore 9, 2) := by decide +kernel
theorem dX3_look_90 : decode cX3_look 90 = .ok (.aload 6, 2) := by decide +kernel
theorem dX3_look_92 : decode cX3_look 92 = .ok (.iconst 5, 1) := by decide +kernel
theorem dX3_look_93 : decode cX3_look 93 = .ok (.iaload, 1) := by decide +kernel
theorem dX3_look_94 : decode cX3_look 94 = .ok (.iconst 1, 1) := by decide +kernel
theorem dX3_look_95 : decode cX3_look 95 = .ok (.if_icmp .eq 111, 3) := by decide +kernel
theorem dX3_look_98 : decode cX3_look 98 = .ok (.aload_n 0, 1) := by decide +kernel
theorem dX3_look_99 : decode cX3_look 99 = .ok (.aload_n 3, 1) := by decide +kernel
theorem dX3_look_100 : decode cX3_look 100 = .ok (.iload 5, 2) := by decide +kernel
theorem dX3_look_102 : decode cX3_look 102 = .ok (.iaload, 1) := by decide +kernel
theorem dX3_look_103 : decode cX3_look 103 = .ok (.invokevirtual 47, 3) := by decide +kernel
theorem dX3_look_106 : decode cX3_look 106 = .ok (.ifCond .ge 100, 3) := by decide +kernel
theorem dX3_look_109 : decode cX3_look 109 = .ok (.aload 6, 2) := by decide +kernel
theorem dX3_look_111 : decode cX3_look 111 = .ok (.iconst 1, 1) := by decide +kernel
theorem dX3_look_112 : decode cX3_look 112 = .ok (.iaload, 1) := by decide +kernel
theorem dX3_look_113 : decode cX3_look 113 = .ok (.iconst 2, 1) := by decide +kernel
theorem dX3_look_114 : decode cX3_look 114 = .ok (.isub, 1) := by decide +kernel
theorem dX3_look_115 : decode cX3_look 115 = .ok (.aload_n 2, 1) := by decide +kernel
theorem dX3_look_116 : decode cX3_look 116 = .ok (.iconst 2, 1) := by decide +kernel
theorem dX3_look_117 : decode cX3_look 117 = .ok (.iaload, 1) := by decide +kernel
theorem dX3_look_118 : decode cX3_look 118 = .ok (.if_icmp .gt 88, 3) := by decide +kernel
theorem dX3_look_121 : decode cX3_look 121 = .ok (.iload 8, 2) := by decide +kernel
theorem dX3_look_123 : decode cX3_look 123 = .ok (.sipush 1000, 3) := by decide +kernel
theorem dX3_look_126 : decode cX3_look 126 = .ok (.if_icmp .lt 14, 3) := by decide +kernel
theorem dX3_look_129 : decode cX3_look 129 = .ok (.iload 9, 2) := by decide +kernel
theorem dX3_look_131 : decode cX3_look 131 = .ok (.sipush 1000, 3) := by decide +kernel
theorem dX3_look_134 : decode cX3_look 134 = .ok (.if_icmp .lt 6, 3) := by decide +kernel
theorem dX3_look_137 : decode cX3_look 137 = .ok (.goto 69, 3) := by decide +kernel
theorem dX3_look_140 : decode cX3_look 140 = .ok (.aload 6, 2) := by decide +kernel
theorem dX3_look_142 : decode cX3_look 142 = .ok (.iconst 3, 1) := by decide +kernel
theorem dX3_look_143 : decode cX3_look 143 = .ok (.iaload, 1) := by decide +kernel
theorem dX3_look_144 : decode cX3_look 144 = .ok (.aload_n 2, 1) := by decide +kernel
theorem dX3_look_145 : decode cX3_look 145 = .ok (.iconst 3, 1) := by decide +kernel
theorem dX3_look_146 : decode cX3_look 146 = .ok (.iaload, 1) := by decide +kernel
theorem dX3_look_147 : decode cX3_look 147 = .ok (.iadd, 1) := by decide +kernel
theorem dX3_look_148 : decode cX3_look 148 = .ok (.ifCond .le 57, 3) := by decide +kernel
theorem dX3_look_151 : decode cX3_look 151 = .ok (.aload_n 2, 1) := by decide +kernel
theorem dX3_look_152 : decode cX3_look 152 = .ok (.iconst 4, 1) := by decide +kernel
theorem dX3_look_153 : decode cX3_look 153 = .ok (.aload_n 3, 1) := by decide +kernel
theorem dX3_look_154 : decode cX3_look 154 = .ok (.iload 5, 2) := by decide +kernel
theorem dX3_look_156 : decode cX3_look 156 = .ok (.iaload, 1) := by decide +kernel
theorem dX3_look_157 : decode cX3_look 157 = .ok (.iastore, 1) := by decide +kernel
theorem dX3_look_158 : decode cX3_look 158 = .ok (.aload_n 2, 1) := by decide +kernel
theorem dX3_look_159 : decode cX3_look 159 = .ok (.bipush 6, 2) := by decide +kernel
theorem dX3_look_161 : decode cX3_look 161 = .ok (.iload 8, 2) := by decide +kernel
theorem dX3_look_163 : decode cX3_look 163 = .ok (.iload 9, 2) := by decide +kernel
theorem dX3_look_165 : decode cX3_look 165 = .ok (.if_icmp .gt 10, 3) := by decide +kernel
theorem dX3_look_168 : decode cX3_look 168 = .ok (.aload 7, 2) := by decide +kernel
theorem dX3_look_170 : decode cX3_look 170 = .ok (.iconst 0, 1) := by decide +kernel
theorem dX3_look_171 : decode cX3_look 171 = .ok (.iaload, 1) := by decide +kernel
theorem dX3_look_172 : decode cX3_look 172 = .ok (.goto 7, 3) := by decide +kernel
theorem dX3_look_175 : decode cX3_look 175 = .ok (.aload 7, 2) := by decide +kernel
theorem dX3_look_177 : decode cX3_look 177 = .ok (.iconst 1, 1) := by decide +kernel
theorem dX3_look_178 : decode cX3_look 178 = .ok (.iaload, 1) := by decide +kernel
theorem dX3_look_179 : decode cX3_look 179 = .ok (.iastore, 1) := by decide +kernel
theorem dX3_look_180 : decode cX3_look 180 = .ok (.aload_n 2, 1) := by decide +kernel
theorem dX3_look_181 : decode cX3_look 181 = .ok (.iconst 5, 1) := by decide +kernel
theorem dX3_look_182 : decode cX3_look 182 = .ok (.iconst 3, 1) := by decide +kernel
theorem dX3_look_183 : decode cX3_look 183 = .ok (.iload 8, 2) := by decide +kernel
theorem dX3_look_185 : decode cX3_look 185 = .ok (.iload 9, 2) := by decide +kernel
theorem dX3_look_187 : decode cX3_look 187 = .ok (.if_icmp .gt 8, 3) := by decide +kernel
theorem dX3_look_190 : decode cX3_look 190 = .ok (.iload 8, 2) := by decide +kernel
theorem dX3_look_192 : decode cX3_look 192 = .ok (.goto 5, 3) := by decide +kernel
theorem dX3_look_195 : decode cX3_look 195 = .ok (.iload 9, 2) := by decide +kernel
theorem dX3_look_197 : decode cX3_look 197 = .ok (.iadd, 1) := by decide +kernel
theorem dX3_look_198 : decode cX3_look 198 = .ok (.iastore, 1) := by decide +kernel
theorem dX3_look_199 : decode cX3_look 199 = .ok (.aload_n 2, 1) := by decide +kernel
theorem dX3_look_200 : decode cX3_look 200 = .ok (.bipush 7, 2) := by decide +kernel
theorem dX3_look_202 : decode cX3_look 202 = .ok (.iload 5, 2) := by decide +kernel
theorem dX3_look_204 : decode cX3_look 204 = .ok (.iastore, 1) := by decide +kernel
theorem dX3_look_205 : decode cX3_look 205 = .ok (.return_, 1) := by decide +kernel
theorem dX3_look_206 : decode cX3_look 206 = .ok (.iinc 4 1, 3) := by decide +kernel
theorem dX3_look_209 : decode cX3_look 209 = .ok (.goto (-192), 3) := by decide +kernel
theorem dX3_look_212 : decode cX3_look 212 = .ok (.return_, 1) := by decide +kernel
set_option maxRecDepth 20000 in
theorem ggX3_pass_X3_look : GoodIn wsX3_pass wsX3_look := goodIn_r _ [16, 1, 17, 2, 6, 18, 19, 20, 21, 15, 22, 23, 24, 25, 26, 27, 28, 29, 30, 31, 32] (by decide +kernel) (by decide +kernel)
set_option maxRecDepth 20000 in
theorem gX3_pass_X3_look : GoodIn wsX3_pass (wsV RX3 51 RX3 yX3_look wsX3_look) := goodIn_app (goodIn_of _ (by decide +kernel)) ggX3_pass_X3_look
theorem dX3_pass_0 : decode cX3_pass 0 = .ok (.iconst 0, 1) := by decide +kernel
theorem dX3_pass_1 : decode cX3_pass 1 = .ok (.istore_n 1, 1) := by decide +kernel
theorem dX3_pass_2 : decode cX3_pass 2 = .ok (.iconst 0, 1) := by decide +kernel
theorem dX3_pass_3 : decode cX3_pass 3 = .ok (.istore_n 2, 1) := by decide +kernel
theorem dX3_pass_4 : decode cX3_pass 4 = .ok (.iload_n 2, 1) := by decide +kernel
theorem dX3_pass_5 : decode cX3_pass 5 = .ok (.aload_n 0, 1) := by decide +kernel
theorem dX3_pass_6 : decode cX3_pass 6 = .ok (.getfield 21, 3) := by decide +kernel
theorem dX3_pass_9 : decode cX3_pass 9 = .ok (.arraylength, 1) := by decide +kernel
theorem dX3_pass_10 : decode cX3_pass 10 = .ok (.if_icmp .ge 165, 3) := by decide +kernel
theorem dX3_pass_13 : decode cX3_pass 13 = .ok (.aload_n 0, 1) := by decide +kernel
theorem dX3_pass_14 : decode cX3_pass 14 = .ok (.getfield 21, 3) := by decide +kernel
theorem dX3_pass_17 : decode cX3_pass 17 = .ok (.iload_n 2, 1) := by decide +kernel
theorem dX3_pass_18 : decode cX3_pass 18 = .ok (.aaload, 1) := by decide +kernel
theorem dX3_pass_19 : decode cX3_pass 19 = .ok (.astore_n 3, 1) := by decide +kernel
theorem dX3_pass_20 : decode cX3_pass 20 = .ok (.aload_n 3, 1) := by decide +kernel
theorem dX3_pass_21 : decode cX3_pass 21 = .ok (.iconst 4, 1) := by decide +kernel
theorem dX3_pass_22 : decode cX3_pass 22 = .ok (.iaload, 1) := by decide +kernel
theorem dX3_pass_23 : decode cX3_pass 23 = .ok (.ifCond .ge 8, 3) := by decide +kernel
theorem dX3_pass_26 : decode cX3_pass 26 = .ok (.aload_n 0, 1) := by decide +kernel
theorem dX3_pass_27 : decode cX3_pass 27 = .ok (.iload_n 2, 1) := by decide +kernel
theorem dX3_pass_28 : decode cX3_pass 28 = .ok (.invokevirtual 51, 3) := by decide +kernel
theorem dX3_pass_31 : decode cX3_pass 31 = .ok (.aload_n 3, 1) := by decide +kernel
theorem dX3_pass_32 : decode cX3_pass 32 = .ok (.iconst 4, 1) := by decide +kernel
theorem dX3_pass_33 : decode cX3_pass 33 = .ok (.iaload, 1) := by decide +kernel
theorem dX3_pass_34 : decode cX3_pass 34 = .ok (.ifCond .ge 6, 3) := by decide +kernel
theorem dX3_pass_37 : decode cX3_pass 37 = .ok (.goto 132, 3) := by decide +kernel
theorem dX3_pass_40 : decode cX3_pass 40 = .ok (.aload_n 3, 1) := by decide +kernel
theorem dX3_pass_41 : decode cX3_pass 41 = .ok (.iconst 5, 1) := by decide +kernel
theorem dX3_pass_42 : decode cX3_pass 42 = .ok (.dup2, 1) := by decide +kernel
theorem dX3_pass_43 : decode cX3_pass 43 = .ok (.iaload, 1) := by decide +kernel
theorem dX3_pass_44 : decode cX3_pass 44 = .ok (.iconst 1, 1) := by decide +kernel
theorem dX3_pass_45 : decode cX3_pass 45 = .ok (.isub, 1) := by decide +kernel
theorem dX3_pass_46 : decode cX3_pass 46 = .ok (.iastore, 1) := by decide +kernel
theorem dX3_pass_47 : decode cX3_pass 47 = .ok (.aload_n 3, 1) := by decide +kernel
theorem dX3_pass_48 : decode cX3_pass 48 = .ok (.iconst 5, 1) := by decide +kernel
theorem dX3_pass_49 : decode cX3_pass 49 = .ok (.iaload, 1) := by decide +kernel
theorem dX3_pass_50 : decode cX3_pass 50 = .ok (.ifCond .le 6, 3) := by decide +kernel
theorem dX3_pass_53 : decode cX3_pass 53 = .ok (.goto 116, 3) := by decide +kernel
theorem dX3_pass_56 : decode cX3_pass 56 = .ok (.aload_n 0, 1) := by decide +kernel
theorem dX3_pass_57 : decode cX3_pass 57 = .ok (.getfield 18, 3) := by decide +kernel
theorem dX3_pass_60 : decode cX3_pass 60 = .ok (.aload_n 3, 1) := by decide +kernel
theorem dX3_pass_61 : decode cX3_pass 61 = .ok (.iconst 4, 1) := by decide +kernel
theorem dX3_pass_62 : decode cX3_pass 62 = .ok (.iaload, 1) := by decide +kernel
theorem dX3_pass_63 : decode cX3_pass 63 = .ok (.aaload, 1) := by decide +kernel
theorem dX3_pass_64 : decode cX3_pass 64 = .ok (.astore 4, 2) := by decide +kernel
theorem dX3_pass_66 : decode cX3_pass 66 = .ok (.iload_n 1, 1) := by decide +kernel
theorem dX3_pass_67 : decode cX3_pass 67 = .ok (.iconst 1, 1) := by decide +kernel
theorem dX3_pass_68 : decode cX3_pass 68 = .ok (.aload_n 3, 1) := by decide +kernel
theorem dX3_pass_69 : decode cX3_pass 69 = .ok (.iconst 4, 1) := by decide +kernel
theorem dX3_pass_70 : decode cX3_pass 70 = .ok (.iaload, 1) := by decide +kernel
theorem dX3_pass_71 : decode cX3_pass 71 = .ok (.ishl, 1) := by decide +kernel
theorem dX3_pass_72 : decode cX3_pass 72 = .ok (.ior, 1) := by decide +kernel
theorem dX3_pass_73 : decode cX3_pass 73 = .ok (.istore_n 1, 1) := by decide +kernel
theorem dX3_pass_74 : decode cX3_pass 74 = .ok (.aload_n 3, 1) := by decide +kernel
theorem dX3_pass_75 : decode cX3_pass 75 = .ok (.iconst 1, 1) := by decide +kernel
theorem dX3_pass_76 : decode cX3_pass 76 = .ok (.aload_n 3, 1) := by decide +kernel
theorem dX3_pass_77 : decode cX3_pass 77 = .ok (.bipush 6, 2) := by decide +kernel
theorem dX3_pass_79 : decode cX3_pass 79 = .ok (.iaload, 1) := by decide +kernel
theorem dX3_pass_80 : decode cX3_pass 80 = .ok (.iastore, 1) := by decide +kernel
theorem dX3_pass_81 : decode cX3_pass 81 = .ok (.aload_n 3, 1) := by decide +kernel
theorem dX3_pass_82 : decode cX3_pass 82 = .ok (.iconst 4, 1) := by decide +kernel
theorem dX3_pass_83 : decode cX3_pass 83 = .ok (.iconst (-1), 1) := by decide +kernel
theorem dX3_pass_84 : decode cX3_pass 84 = .ok (.iastore, 1) := by decide +kernel
theorem dX3_pass_85 : decode cX3_pass 85 = .ok (.sipush 300, 3) := by decide +kernel
theorem dX3_pass_88 : decode cX3_pass 88 = .ok (.aload 4, 2) := by decide +kernel
theorem dX3_pass_90 : decode cX3_pass 90 = .ok (.iconst 3, 1) := by decide +kernel
theorem dX3_pass_91 : decode cX3_pass 91 = .ok (.iaload, 1) := by decide +kernel
theorem dX3_pass_92 : decode cX3_pass 92 = .ok (.isub, 1) := by decide +kernel
theorem dX3_pass_93 : decode cX3_pass 93 = .ok (.aload_n 3, 1) := by decide +kernel
theorem dX3_pass_94 : decode cX3_pass 94 = .ok (.iconst 3, 1) := by decide +kernel
theorem dX3_pass_95 : decode cX3_pass 95 = .ok (.iaload, 1) := by decide +kernel
theorem dX3_pass_96 : decode cX3_pass 96 = .ok (.if_icmp .ge 14, 3) := by decide +kernel
theorem dX3_pass_99 : decode cX3_pass 99 = .ok (.sipush 300, 3) := by decide +kernel
theorem dX3_pass_102 : decode cX3_pass 102 = .ok (.aload 4, 2) := by decide +kernel
theorem dX3_pass_104 : decode cX3_pass 104 = .ok (.iconst 3, 1) := by decide +kernel
theorem dX3_pass_105 : decode cX3_pass 105 = .ok (.iaload, 1) := by decide +kernel
theorem dX3_pass_106 : decode cX3_pass 106 = .ok (.isub, 1) := by decide +kernel
theorem dX3_pass_107 : decode cX3_pass 107 = .ok (.goto 6, 3) := by decide +kernel
theorem dX3_pass_110 : decode cX3_pass 110 = .ok (.aload_n 3, 1) := by decide +kernel
theorem dX3_pass_111 : decode cX3_pass 111 = .ok (.iconst 3, 1) := by decide +kernel
theorem dX3_pass_112 : decode cX3_pass 112 = .ok (.iaload, 1) := by decide +kernel
theorem dX3_pass_113 : decode cX3_pass 113 = .ok (.istore 5, 2) := by decide +kernel
theorem dX3_pass_115 : decode cX3_pass 115 = .ok (.aload 4, 2) := by decide +kernel
theorem dX3_pass_117 : decode cX3_pass 117 = .ok (.iconst 3, 1) := by decide +kernel
theorem dX3_pass_118 : decode cX3_pass 118 = .ok (.dup2, 1) := by decide +kernel
theorem dX3_pass_119 : decode cX3_pass 119 = .ok (.iaload, 1) := by decide +kernel
theorem dX3_pass_120 : decode cX3_pass 120 = .ok (.iload 5, 2) := by decide +kernel
theorem dX3_pass_122 : decode cX3_pass 122 = .ok (.iadd, 1) := by decide +kernel
theorem dX3_pass_123 : decode cX3_pass 123 = .ok (.iastore, 1) := by decide +kernel
theorem dX3_pass_124 : decode cX3_pass 124 = .ok (.aload_n 3, 1) := by decide +kernel
theorem dX3_pass_125 : decode cX3_pass 125 = .ok (.iconst 3, 1) := by decide +kernel
theorem dX3_pass_126 : decode cX3_pass 126 = .ok (.dup2, 1) := by decide +kernel
theorem dX3_pass_127 : decode cX3_pass 127 = .ok (.iaload, 1) := by decide +kernel
theorem dX3_pass_128 : decode cX3_pass 128 = .ok (.iload 5, 2) := by decide +kernel
theorem dX3_pass_130 : decode cX3_pass 130 = .ok (.isub, 1) := by decide +kernel
theorem dX3_pass_131 : decode cX3_pass 131 = .ok (.iastore, 1) := by decide +kernel
theorem dX3_pass_132 : decode cX3_pass 132 = .ok (.aload 4, 2) := by decide +kernel
theorem dX3_pass_134 : decode cX3_pass 134 = .ok (.iconst 4, 1) := by decide +kernel
theorem dX3_pass_135 : decode cX3_pass 135 = .ok (.iconst 0, 1) := by decide +kernel
theorem dX3_pass_136 : decode cX3_pass 136 = .ok (.iastore, 1) := by decide +kernel
theorem dX3_pass_137 : decode cX3_pass 137 = .ok (.aload 4, 2) := by decide +kernel
theorem dX3_pass_139 : decode cX3_pass 139 = .ok (.iconst 3, 1) := by decide +kernel
theorem dX3_pass_140 : decode cX3_pass 140 = .ok (.iaload, 1) := by decide +kernel
theorem dX3_pass_141 : decode cX3_pass 141 = .ok (.ifCond .ne 6, 3) := by decide +kernel
theorem dX3_pass_144 : decode cX3_pass 144 = .ok (.goto 25, 3) := by decide +kernel
theorem dX3_pass_147 : decode cX3_pass 147 = .ok (.aload 4, 2) := by decide +kernel
theorem dX3_pass_149 : decode cX3_pass 149 = .ok (.iconst 5, 1) := by decide +kernel
theorem dX3_pass_150 : decode cX3_pass 150 = .ok (.iconst 1, 1) := by decide +kernel
theorem dX3_pass_151 : decode cX3_pass 151 = .ok (.iastore, 1) := by decide +kernel
theorem dX3_pass_152 : decode cX3_pass 152 = .ok (.aload 4, 2) := by decide +kernel
theorem dX3_pass_154 : decode cX3_pass 154 = .ok (.bipush 6, 2) := by decide +kernel
theorem dX3_pass_156 : decode cX3_pass 156 = .ok (.dup2, 1) := by decide +kernel
theorem dX3_pass_157 : decode cX3_pass 157 = .ok (.iaload, 1) := by decide +kernel
theorem dX3_pass_158 : decode cX3_pass 158 = .ok (.iconst 1, 1) := by decide +kernel
theorem dX3_pass_159 : decode cX3_pass 159 = .ok (.iadd, 1) := by decide +kernel
theorem dX3_pass_160 : decode cX3_pass 160 = .ok (.iastore, 1) := by decide +kernel
theorem dX3_pass_161 : decode cX3_pass 161 = .ok (.aload_n 3, 1) := by decide +kernel
theorem dX3_pass_162 : decode cX3_pass 162 = .ok (.bipush 8, 2) := by decide +kernel
theorem dX3_pass_164 : decode cX3_pass 164 = .ok (.dup2, 1) := by decide +kernel
theorem dX3_pass_165 : decode cX3_pass 165 = .ok (.iaload, 1) := by decide +kernel
theorem dX3_pass_166 : decode cX3_pass 166 = .ok (.iconst 1, 1) := by decide +kernel
theorem dX3_pass_167 : decode cX3_pass 167 = .ok (.iadd, 1) := by decide +kernel
theorem dX3_pass_168 : decode cX3_pass 168 = .ok (.iastore, 1) := by decide +kernel
theorem dX3_pass_169 : decode cX3_pass 169 = .ok (.iinc 2 1, 3) := by decide +kernel
theorem dX3_pass_172 : decode cX3_pass 172 = .ok (.goto (-168), 3) := by decide +kernel
theorem dX3_pass_175 : decode cX3_pass 175 = .ok (.aload_n 0, 1) := by decide +kernel
theorem dX3_pass_176 : decode cX3_pass 176 = .ok (.getfield 18, 3) := by decide +kernel
theorem dX3_pass_179 : decode cX3_pass 179 = .ok (.astore_n 2, 1) := by decide +kernel
theorem dX3_pass_180 : decode cX3_pass 180 = .ok (.aload_n 2, 1) := by decide +kernel
theorem dX3_pass_181 : decode cX3_pass 181 = .ok (.arraylength, 1) := by decide +kernel
theorem dX3_pass_182 : decode cX3_pass 182 = .ok (.istore_n 3, 1) := by decide +kernel
theorem dX3_pass_183 : decode cX3_pass 183 = .ok (.iconst 0, 1) := by decide +kernel
theorem dX3_pass_184 : decode cX3_pass 184 = .ok (.istore 4, 2) := by decide +kernel
theorem dX3_pass_186 : decode cX3_pass 186 = .ok (.iload 4, 2) := by decide +kernel
theorem dX3_pass_188 : decode cX3_pass 188 = .ok (.iload_n 3, 1) := by decide +kernel
theorem dX3_pass_189 : decode cX3_pass 189 = .ok (.if_icmp .ge 115, 3) := by decide +kernel
theorem dX3_pass_192 : decode cX3_pass 192 = .ok (.aload_n 2, 1) := by decide +kernel
theorem dX3_pass_193 : decode cX3_pass 193 = .ok (.iload 4, 2) := by decide +kernel
theorem dX3_pass_195 : decode cX3_pass 195 = .ok (.aaload, 1) := by decide +kernel
theorem dX3_pass_196 : decode cX3_pass 196 = .ok (.astore 5, 2) := by decide +kernel
theorem dX3_pass_198 : decode cX3_pass 198 = .ok (.aload 5, 2) := by decide +kernel
theorem dX3_pass_200 : decode cX3_pass 200 = .ok (.iconst 5, 1) := by decide +kernel
theorem dX3_pass_201 : decode cX3_pass 201 = .ok (.iaload, 1) := by decide +kernel
theorem dX3_pass_202 : decode cX3_pass 202 = .ok (.ifCond .ne 6, 3) := by decide +kernel
theorem dX3_pass_205 : decode cX3_pass 205 = .ok (.goto 93, 3) := by decide +kernel
theorem dX3_pass_208 : decode cX3_pass 208 = .ok (.aload 5, 2) := by decide +kernel
theorem dX3_pass_210 : decode cX3_pass 210 = .ok (.iconst 4, 1) := by decide +kernel
theorem dX3_pass_211 : decode cX3_pass 211 = .ok (.iaload, 1) := by decide +kernel
theorem dX3_pass_212 : decode cX3_pass 212 = .ok (.iconst 4, 1) := by decide +kernel
theorem dX3_pass_213 : decode cX3_pass 213 = .ok (.if_icmp .le 15, 3) := by decide +kernel
theorem dX3_pass_216 : decode cX3_pass 216 = .ok (.aload 5, 2) := by decide +kernel
theorem dX3_pass_218 : decode cX3_pass 218 = .ok (.iconst 3, 1) := by decide +kernel
theorem dX3_pass_219 : decode cX3_pass 219 = .ok (.iaload, 1) := by decide +kernel
theorem dX3_pass_220 : decode cX3_pass 220 = .ok (.iconst 1, 1) := by decide +kernel
theorem dX3_pass_221 : decode cX3_pass 221 = .ok (.if_icmp .le 7, 3) := by decide +kernel
theorem dX3_pass_224 : decode cX3_pass 224 = .ok (.iconst 2, 1) := by decide +kernel
theorem dX3_pass_225 : decode cX3_pass 225 = .ok (.goto 4, 3) := by decide +kernel
theorem dX3_pass_228 : decode cX3_pass 228 = .ok (.iconst 1, 1) := by decide +kernel
theorem dX3_pass_229 : decode cX3_pass 229 = .ok (.istore 6, 2) := by decide +kernel
theorem dX3_pass_231 : decode cX3_pass 231 = .ok (.aload 5, 2) := by decide +kernel
theorem dX3_pass_233 : decode cX3_pass 233 = .ok (.iconst 3, 1) := by decide +kernel
theorem dX3_pass_234 : decode cX3_pass 234 = .ok (.dup2, 1) := by decide +kernel
theorem dX3_pass_235 : decode cX3_pass 235 = .ok (.iaload, 1) := by decide +kernel
theorem dX3_pass_236 : decode cX3_pass 236 = .ok (.iload 6, 2) := by decide +kernel
theorem dX3_pass_238 : decode cX3_pass 238 = .ok (.isub, 1) := by decide +kernel
theorem dX3_pass_239 : decode cX3_pass 239 = .ok (.iastore, 1) := by decide +kernel
theorem dX3_pass_240 : decode cX3_pass 240 = .ok (.aload_n 0, 1) := by decide +kernel
theorem dX3_pass_241 : decode cX3_pass 241 = .ok (.dup, 1) := by decide +kernel
theorem dX3_pass_242 : decode cX3_pass 242 = .ok (.getfield 55, 3) := by decide +kernel
theorem dX3_pass_245 : decode cX3_pass 245 = .ok (.iload 6, 2) := by decide +kernel
theorem dX3_pass_247 : decode cX3_pass 247 = .ok (.iadd, 1) := by decide +kernel
theorem dX3_pass_248 : decode cX3_pass 248 = .ok (.putfield 55, 3) := by decide +kernel
theorem dX3_pass_251 : decode cX3_pass 251 = .ok (.aload 5, 2) := by decide +kernel
theorem dX3_pass_253 : decode cX3_pass 253 = .ok (.iconst 3, 1) := by decide +kernel
theorem dX3_pass_254 : decode cX3_pass 254 = .ok (.iaload, 1) := by decide +kernel
theorem dX3_pass_255 : decode cX3_pass 255 = .ok (.ifCond .ne 8, 3) := by decide +kernel
theorem dX3_pass_258 : decode cX3_pass 258 = .ok (.aload 5, 2) := by decide +kernel
theorem dX3_pass_260 : decode cX3_pass 260 = .ok (.iconst 5, 1) := by decide +kernel
theorem dX3_pass_261 : decode cX3_pass 261 = .ok (.iconst 0, 1) := by decide +kernel
theorem dX3_pass_262 : decode cX3_pass 262 = .ok (.iastore, 1) := by decide +kernel
theorem dX3_pass_263 : decode cX3_pass 263 = .ok (.aload 5, 2) := by decide +kernel
theorem dX3_pass_265 : decode cX3_pass 265 = .ok (.iconst 5, 1) := by decide +kernel
theorem dX3_pass_266 : decode cX3_pass 266 = .ok (.iaload, 1) := by decide +kernel
theorem dX3_pass_267 : decode cX3_pass 267 = .ok (.iconst 1, 1) := by decide +kernel
theorem dX3_pass_268 : decode cX3_pass 268 = .ok (.if_icmp .ne 30, 3) := by decide +kernel
theorem dX3_pass_271 : decode cX3_pass 271 = .ok (.aload_n 0, 1) := by decide +kernel
theorem dX3_pass_272 : decode cX3_pass 272 = .ok (.getfield 39, 3) := by decide +kernel
theorem dX3_pass_275 : decode cX3_pass 275 = .ok (.bipush 30, 2) := by decide +kernel
theorem dX3_pass_277 : decode cX3_pass 277 = .ok (.irem, 1) := by decide +kernel
theorem dX3_pass_278 : decode cX3_pass 278 = .ok (.ifCond .ne 20, 3) := by decide +kernel
theorem dX3_pass_281 : decode cX3_pass 281 = .ok (.aload 5, 2) := by decide +kernel
theorem dX3_pass_283 : decode cX3_pass 283 = .ok (.iconst 4, 1) := by decide +kernel
theorem dX3_pass_284 : decode cX3_pass 284 = .ok (.iaload, 1) := by decide +kernel
theorem dX3_pass_285 : decode cX3_pass 285 = .ok (.bipush 9, 2) := by decide +kernel
theorem dX3_pass_287 : decode cX3_pass 287 = .ok (.if_icmp .ge 11, 3) := by decide +kernel
theorem dX3_pass_290 : decode cX3_pass 290 = .ok (.aload 5, 2) := by decide +kernel
theorem dX3_pass_292 : decode cX3_pass 292 = .ok (.iconst 4, 1) := by decide +kernel
theorem dX3_pass_293 : decode cX3_pass 293 = .ok (.dup2, 1) := by decide +kernel
theorem dX3_pass_294 : decode cX3_pass 294 = .ok (.iaload, 1) := by decide +kernel
theorem dX3_pass_295 : decode cX3_pass 295 = .ok (.iconst 1, 1) := by decide +kernel
theorem dX3_pass_296 : decode cX3_pass 296 = .ok (.iadd, 1) := by decide +kernel
theorem dX3_pass_297 : decode cX3_pass 297 = .ok (.iastore, 1) := by decide +kernel
theorem dX3_pass_298 : decode cX3_pass 298 = .ok (.iinc 4 1, 3) := by decide +kernel
theorem dX3_pass_301 : decode cX3_pass 301 = .ok (.goto (-115), 3) := by decide +kernel
theorem dX3_pass_304 : decode cX3_pass 304 = .ok (.aload_n 0, 1) := by decide +kernel
theorem dX3_pass_305 : decode cX3_pass 305 = .ok (.getfield 18, 3) := by decide +kernel
theorem dX3_pass_308 : decode cX3_pass 308 = .ok (.astore_n 2, 1) := by decide +kernel
theorem dX3_pass_309 : decode cX3_pass 309 = .ok (.aload_n 2, 1) := by decide +kernel
theorem dX3_pass_310 : decode cX3_pass 310 = .ok (.arraylength, 1) := by decide +kernel
theorem dX3_pass_311 : decode cX3_pass 311 = .ok (.istore_n 3, 1) := by decide +kernel
theorem dX3_pass_312 : decode cX3_pass 312 = .ok (.iconst 0, 1) := by decide +kernel
theorem dX3_pass_313 : decode cX3_pass 313 = .ok (.istore 4, 2) := by decide +kernel
theorem dX3_pass_315 : decode cX3_pass 315 = .ok (.iload 4, 2) := by decide +kernel
theorem dX3_pass_317 : decode cX3_pass 317 = .ok (.iload_n 3, 1) := by decide +kernel
theorem dX3_pass_318 : decode cX3_pass 318 = .ok (.if_icmp .ge 113, 3) := by decide +kernel
theorem dX3_pass_321 : decode cX3_pass 321 = .ok (.aload_n 2, 1) := by decide +kernel
theorem dX3_pass_322 : decode cX3_pass 322 = .ok (.iload 4, 2) := by decide +kernel
theorem dX3_pass_324 : decode cX3_pass 324 = .ok (.aaload, 1) := by decide +kernel
theorem dX3_pass_325 : decode cX3_pass 325 = .ok (.astore 5, 2) := by decide +kernel
theorem dX3_pass_327 : decode cX3_pass 327 = .ok (.aload_n 0, 1) := by decide +kernel
theorem dX3_pass_328 : decode cX3_pass 328 = .ok (.getfield 7, 3) := by decide +kernel
theorem dX3_pass_331 : decode cX3_pass 331 = .ok (.aload_n 0, 1) := by decide +kernel
theorem dX3_pass_332 : decode cX3_pass 332 = .ok (.getfield 14, 3) := by decide +kernel
theorem dX3_pass_335 : decode cX3_pass 335 = .ok (.aload 5, 2) := by decide +kernel
theorem dX3_pass_337 : decode cX3_pass 337 = .ok (.iconst 0, 1) := by decide +kernel
theorem dX3_pass_338 : decode cX3_pass 338 = .ok (.iaload, 1) := by decide +kernel
theorem dX3_pass_339 : decode cX3_pass 339 = .ok (.aaload, 1) := by decide +kernel
theorem dX3_pass_340 : decode cX3_pass 340 = .ok (.iconst 0, 1) := by decide +kernel
theorem dX3_pass_341 : decode cX3_pass 341 = .ok (.iaload, 1) := by decide +kernel
theorem dX3_pass_342 : decode cX3_pass 342 = .ok (.iaload, 1) := by decide +kernel
theorem dX3_pass_343 : decode cX3_pass 343 = .ok (.aload_n 0, 1) := by decide +kernel
theorem dX3_pass_344 : decode cX3_pass 344 = .ok (.getfield 7, 3) := by decide +kernel
theorem dX3_pass_347 : decode cX3_pass 347 = .ok (.aload_n 0, 1) := by decide +kernel
theorem dX3_pass_348 : decode cX3_pass 348 = .ok (.getfield 14, 3) := by decide +kernel
theorem dX3_pass_351 : decode cX3_pass 351 = .ok (.aload 5, 2) := by decide +kernel
theorem dX3_pass_353 : decode cX3_pass 353 = .ok (.iconst 0, 1) := by decide +kernel
theorem dX3_pass_354 : decode cX3_pass 354 = .ok (.iaload, 1) := by decide +kernel
theorem dX3_pass_355 : decode cX3_pass 355 = .ok (.aaload, 1) := by decide +kernel
theorem dX3_pass_356 : decode cX3_pass 356 = .ok (.iconst 1, 1) := by decide +kernel
theorem dX3_pass_357 : decode cX3_pass 357 = .ok (.iaload, 1) := by decide +kernel
theorem dX3_pass_358 : decode cX3_pass 358 = .ok (.iaload, 1) := by decide +kernel
theorem dX3_pass_359 : decode cX3_pass 359 = .ok (.invokestatic 58, 3) := by decide +kernel
theorem dX3_pass_362 : decode cX3_pass 362 = .ok (.istore 6, 2) := by decide +kernel
theorem dX3_pass_364 : decode cX3_pass 364 = .ok (.aload 5, 2) := by decide +kernel
theorem dX3_pass_366 : decode cX3_pass 366 = .ok (.iconst 5, 1) := by decide +kernel
theorem dX3_pass_367 : decode cX3_pass 367 = .ok (.iaload, 1) := by decide +kernel
theorem dX3_pass_368 : decode cX3_pass 368 = .ok (.ifCond .eq 57, 3) := by decide +kernel
theorem dX3_pass_371 : decode cX3_pass 371 = .ok (.aload_n 0, 1) := by decide +kernel
theorem dX3_pass_372 : decode cX3_pass 372 = .ok (.getfield 39, 3) := by decide +kernel
theorem dX3_pass_375 : decode cX3_pass 375 = .ok (.bipush 10, 2) := by decide +kernel
theorem dX3_pass_377 : decode cX3_pass 377 = .ok (.irem, 1) := by decide +kernel
theorem dX3_pass_378 : decode cX3_pass 378 = .ok (.ifCond .ne 47, 3) := by decide +kernel
theorem dX3_pass_381 : decode cX3_pass 381 = .ok (.aload_n 0, 1) := by decide +kernel
theorem dX3_pass_382 : decode cX3_pass 382 = .ok (.getfield 27, 3) := by decide +kernel
theorem dX3_pass_385 : decode cX3_pass 385 = .ok (.aload_n 0, 1) := by decide +kernel
theorem dX3_pass_386 : decode cX3_pass 386 = .ok (.getfield 39, 3) := by decide +kernel
theorem dX3_pass_389 : decode cX3_pass 389 = .ok (.bipush 60, 2) := by decide +kernel
theorem dX3_pass_391 : decode cX3_pass 391 = .ok (.idiv, 1) := by decide +kernel
theorem dX3_pass_392 : decode cX3_pass 392 = .ok (.iaload, 1) := by decide +kernel
theorem dX3_pass_393 : decode cX3_pass 393 = .ok (.iload 6, 2) := by decide +kernel
theorem dX3_pass_395 : decode cX3_pass 395 = .ok (.bipush 10, 2) := by decide +kernel
theorem dX3_pass_397 : decode cX3_pass 397 = .ok (.idiv, 1) := by decide +kernel
theorem dX3_pass_398 : decode cX3_pass 398 = .ok (.iadd, 1) := by decide +kernel
theorem dX3_pass_399 : decode cX3_pass 399 = .ok (.aload 5, 2) := by decide +kernel
theorem dX3_pass_401 : decode cX3_pass 401 = .ok (.iconst 2, 1) := by decide +kernel
theorem dX3_pass_402 : decode cX3_pass 402 = .ok (.iaload, 1) := by decide +kernel
theorem dX3_pass_403 : decode cX3_pass 403 = .ok (.iconst 5, 1) := by decide +kernel
theorem dX3_pass_404 : decode cX3_pass 404 = .ok (.iadd, 1) := by decide +kernel
theorem dX3_pass_405 : decode cX3_pass 405 = .ok (.if_icmp .ge 6, 3) := by decide +kernel
theorem dX3_pass_408 : decode cX3_pass 408 = .ok (.goto 17, 3) := by decide +kernel
theorem dX3_pass_411 : decode cX3_pass 411 = .ok (.aload 5, 2) := by decide +kernel
theorem dX3_pass_413 : decode cX3_pass 413 = .ok (.iconst 5, 1) := by decide +kernel
theorem dX3_pass_414 : decode cX3_pass 414 = .ok (.iconst 0, 1) := by decide +kernel
theorem dX3_pass_415 : decode cX3_pass 415 = .ok (.iastore, 1) := by decide +kernel
theorem dX3_pass_416 : decode cX3_pass 416 = .ok (.aload 5, 2) := by decide +kernel
theorem dX3_pass_418 : decode cX3_pass 418 = .ok (.bipush 7, 2) := by decide +kernel
theorem dX3_pass_420 : decode cX3_pass 420 = .ok (.dup2, 1) := by decide +kernel
theorem dX3_pass_421 : decode cX3_pass 421 = .ok (.iaload, 1) := by decide +kernel
theorem dX3_pass_422 : decode cX3_pass 422 = .ok (.iconst 1, 1) := by decide +kernel
theorem dX3_pass_423 : decode cX3_pass 423 = .ok (.iadd, 1) := by decide +kernel
theorem dX3_pass_424 : decode cX3_pass 424 = .ok (.iastore, 1) := by decide +kernel
theorem dX3_pass_425 : decode cX3_pass 425 = .ok (.iinc 4 1, 3) := by decide +kernel
theorem dX3_pass_428 : decode cX3_pass 428 = .ok (.goto (-113), 3) := by decide +kernel
theorem dX3_pass_431 : decode cX3_pass 431 = .ok (.aload_n 0, 1) := by decide +kernel
theorem dX3_pass_432 : decode cX3_pass 432 = .ok (.dup, 1) := by decide +kernel
theorem dX3_pass_433 : decode cX3_pass 433 = .ok (.getfield 39, 3) := by decide +kernel
theorem dX3_pass_436 : decode cX3_pass 436 = .ok (.iconst 1, 1) := by decide +kernel
theorem dX3_pass_437 : decode cX3_pass 437 = .ok (.iadd, 1) := by decide +kernel
theorem dX3_pass_438 : decode cX3_pass 438 = .ok (.putfield 39, 3) := by decide +kernel
theorem dX3_pass_441 : decode cX3_pass 441 = .ok (.iload_n 1, 1) := by decide +kernel
theorem dX3_pass_442 : decode cX3_pass 442 = .ok (.ireturn, 1) := by decide +kernel
set_option maxRecDepth 20000 in
theorem ggX3_pass__X3_pass : GoodIn wsX3_pass_ wsX3_pass := goodIn_r _ [6, 7, 8, 9, 1, 10, 11, 12, 13, 14, 15, 16, 17, 18, 19, 5, 20, 21, 22, 23, 24, 25, 26, 27, 28, 29, 30, 31, 32, 33, 34, 35, 36] (by decide +kernel) (by decide +kernel)
set_option maxRecDepth 20000 in
theorem gX3_pass__X3_pass : GoodIn wsX3_pass_ (wsV RX3 63 RX3 yX3_pass wsX3_pass) := goodIn_app (goodIn_of _ (by decide +kernel)) ggX3_pass__X3_pass
theorem dX3_pass__0 : decode cX3_pass_ 0 = .ok (.iconst 0, 1) := by decide +kernel
theorem dX3_pass__1 : decode cX3_pass_ 1 = .ok (.istore_n 2, 1) := by decide +kernel
theorem dX3_pass__2 : decode cX3_pass_ 2 = .ok (.iload_n 2, 1) := by decide +kernel
theorem dX3_pass__3 : decode cX3_pass_ 3 = .ok (.iload_n 1, 1) := by decide +kernel
theorem dX3_pass__4 : decode cX3_pass_ 4 = .ok (.if_icmp .ge 24, 3) := by decide +kernel
theorem dX3_pass__7 : decode cX3_pass_ 7 = .ok (.aload_n 0, 1) := by decide +kernel
theorem dX3_pass__8 : decode cX3_pass_ 8 = .ok (.getfield 39, 3) := by decide +kernel
theorem dX3_pass__11 : decode cX3_pass_ 11 = .ok (.sipush 600, 3) := by decide +kernel
theorem dX3_pass__14 : decode cX3_pass_ 14 = .ok (.if_icmp .ge 14, 3) := by decide +kernel
theorem dX3_pass__17 : decode cX3_pass_ 17 = .ok (.aload_n 0, 1) := by decide +kernel
theorem dX3_pass__18 : decode cX3_pass_ 18 = .ok (.invokevirtual 63, 3) := by decide +kernel
theorem dX3_pass__21 : decode cX3_pass_ 21 = .ok (.pop, 1) := by decide +kernel
theorem dX3_pass__22 : decode cX3_pass_ 22 = .ok (.iinc 2 1, 3) := by decide +kernel
theorem dX3_pass__25 : decode cX3_pass_ 25 = .ok (.goto (-23), 3) := by decide +kernel
theorem dX3_pass__28 : decode cX3_pass_ 28 = .ok (.return_, 1) := by decide +kernel
set_option maxRecDepth 20000 in
theorem ggX3_dawn_X3_sum : GoodIn wsX3_dawn wsX3_sum := goodIn_r _ [9, 1, 10, 11, 12, 13, 14, 15, 16, 17, 18, 19] (by decide +kernel) (by decide +kernel)
set_option maxRecDepth 20000 in
theorem gX3_dawn_X3_sum : GoodIn wsX3_dawn (wsV RX3 67 RX3 yX3_sum wsX3_sum) := goodIn_app (goodIn_of _ (by decide +kernel)) ggX3_dawn_X3_sum
theorem dX3_dawn_0 : decode cX3_dawn 0 = .ok (.aload_n 0, 1) := by decide +kernel
theorem dX3_dawn_1 : decode cX3_dawn 1 = .ok (.iconst 5, 1) := by decide +kernel
theorem dX3_dawn_2 : decode cX3_dawn 2 = .ok (.invokevirtual 67, 3) := by decide +kernel
theorem dX3_dawn_5 : decode cX3_dawn 5 = .ok (.istore_n 1, 1) := by decide +kernel
theorem dX3_dawn_6 : decode cX3_dawn 6 = .ok (.aload_n 0, 1) := by decide +kernel
theorem dX3_dawn_7 : decode cX3_dawn 7 = .ok (.getfield 18, 3) := by decide +kernel
theorem dX3_dawn_10 : decode cX3_dawn 10 = .ok (.astore_n 2, 1) := by decide +kernel
theorem dX3_dawn_11 : decode cX3_dawn 11 = .ok (.aload_n 2, 1) := by decide +kernel
theorem dX3_dawn_12 : decode cX3_dawn 12 = .ok (.arraylength, 1) := by decide +kernel
theorem dX3_dawn_13 : decode cX3_dawn 13 = .ok (.istore_n 3, 1) := by decide +kernel
theorem dX3_dawn_14 : decode cX3_dawn 14 = .ok (.iconst 0, 1) := by decide +kernel
theorem dX3_dawn_15 : decode cX3_dawn 15 = .ok (.istore 4, 2) := by decide +kernel
theorem dX3_dawn_17 : decode cX3_dawn 17 = .ok (.iload 4, 2) := by decide +kernel
theorem dX3_dawn_19 : decode cX3_dawn 19 = .ok (.iload_n 3, 1) := by decide +kernel
theorem dX3_dawn_20 : decode cX3_dawn 20 = .ok (.if_icmp .ge 20, 3) := by decide +kernel
theorem dX3_dawn_23 : decode cX3_dawn 23 = .ok (.aload_n 2, 1) := by decide +kernel
theorem dX3_dawn_24 : decode cX3_dawn 24 = .ok (.iload 4, 2) := by decide +kernel
theorem dX3_dawn_26 : decode cX3_dawn 26 = .ok (.aaload, 1) := by decide +kernel
theorem dX3_dawn_27 : decode cX3_dawn 27 = .ok (.astore 5, 2) := by decide +kernel
theorem dX3_dawn_29 : decode cX3_dawn 29 = .ok (.aload 5, 2) := by decide +kernel
theorem dX3_dawn_31 : decode cX3_dawn 31 = .ok (.iconst 5, 1) := by decide +kernel
theorem dX3_dawn_32 : decode cX3_dawn 32 = .ok (.iconst 0, 1) := by decide +kernel
theorem dX3_dawn_33 : decode cX3_dawn 33 = .ok (.iastore, 1) := by decide +kernel
theorem dX3_dawn_34 : decode cX3_dawn 34 = .ok (.iinc 4 1, 3) := by decide +kernel
theorem dX3_dawn_37 : decode cX3_dawn 37 = .ok (.goto (-20), 3) := by decide +kernel
theorem dX3_dawn_40 : decode cX3_dawn 40 = .ok (.aload_n 0, 1) := by decide +kernel
theorem dX3_dawn_41 : decode cX3_dawn 41 = .ok (.getfield 21, 3) := by decide +kernel
theorem dX3_dawn_44 : decode cX3_dawn 44 = .ok (.astore_n 2, 1) := by decide +kernel
theorem dX3_dawn_45 : decode cX3_dawn 45 = .ok (.aload_n 2, 1) := by decide +kernel
theorem dX3_dawn_46 : decode cX3_dawn 46 = .ok (.arraylength, 1) := by decide +kernel
theorem dX3_dawn_47 : decode cX3_dawn 47 = .ok (.istore_n 3, 1) := by decide +kernel
theorem dX3_dawn_48 : decode cX3_dawn 48 = .ok (.iconst 0, 1) := by decide +kernel
theorem dX3_dawn_49 : decode cX3_dawn 49 = .ok (.istore 4, 2) := by decide +kernel
theorem dX3_dawn_51 : decode cX3_dawn 51 = .ok (.iload 4, 2) := by decide +kernel
theorem dX3_dawn_53 : decode cX3_dawn 53 = .ok (.iload_n 3, 1) := by decide +kernel
theorem dX3_dawn_54 : decode cX3_dawn 54 = .ok (.if_icmp .ge 39, 3) := by decide +kernel
theorem dX3_dawn_57 : decode cX3_dawn 57 = .ok (.aload_n 2, 1) := by decide +kernel
theorem dX3_dawn_58 : decode cX3_dawn 58 = .ok (.iload 4, 2) := by decide +kernel
theorem dX3_dawn_60 : decode cX3_dawn 60 = .ok (.aaload, 1) := by decide +kernel
theorem dX3_dawn_61 : decode cX3_dawn 61 = .ok (.astore 5, 2) := by decide +kernel
theorem dX3_dawn_63 : decode cX3_dawn 63 = .ok (.aload 5, 2) := by decide +kernel
theorem dX3_dawn_65 : decode cX3_dawn 65 = .ok (.iconst 1, 1) := by decide +kernel
theorem dX3_dawn_66 : decode cX3_dawn 66 = .ok (.aload 5, 2) := by decide +kernel
theorem dX3_dawn_68 : decode cX3_dawn 68 = .ok (.iconst 0, 1) := by decide +kernel
theorem dX3_dawn_69 : decode cX3_dawn 69 = .ok (.iaload, 1) := by decide +kernel
theorem dX3_dawn_70 : decode cX3_dawn 70 = .ok (.iastore, 1) := by decide +kernel
theorem dX3_dawn_71 : decode cX3_dawn 71 = .ok (.aload 5, 2) := by decide +kernel
theorem dX3_dawn_73 : decode cX3_dawn 73 = .ok (.iconst 4, 1) := by decide +kernel
theorem dX3_dawn_74 : decode cX3_dawn 74 = .ok (.iconst (-1), 1) := by decide +kernel
theorem dX3_dawn_75 : decode cX3_dawn 75 = .ok (.iastore, 1) := by decide +kernel
theorem dX3_dawn_76 : decode cX3_dawn 76 = .ok (.aload 5, 2) := by decide +kernel
theorem dX3_dawn_78 : decode cX3_dawn 78 = .ok (.iconst 5, 1) := by decide +kernel
theorem dX3_dawn_79 : decode cX3_dawn 79 = .ok (.iconst 0, 1) := by decide +kernel
theorem dX3_dawn_80 : decode cX3_dawn 80 = .ok (.iastore, 1) := by decide +kernel
theorem dX3_dawn_81 : decode cX3_dawn 81 = .ok (.aload 5, 2) := by decide +kernel
theorem dX3_dawn_83 : decode cX3_dawn 83 = .ok (.bipush 7, 2) := by decide +kernel
theorem dX3_dawn_85 : decode cX3_dawn 85 = .ok (.iconst (-1), 1) := by decide +kernel
theorem dX3_dawn_86 : decode cX3_dawn 86 = .ok (.iastore, 1) := by decide +kernel
theorem dX3_dawn_87 : decode cX3_dawn 87 = .ok (.iinc 4 1, 3) := by decide +kernel
theorem dX3_dawn_90 : decode cX3_dawn 90 = .ok (.goto (-39), 3) := by decide +kernel
theorem dX3_dawn_93 : decode cX3_dawn 93 = .ok (.aload_n 0, 1) := by decide +kernel
theorem dX3_dawn_94 : decode cX3_dawn 94 = .ok (.iconst 0, 1) := by decide +kernel
theorem dX3_dawn_95 : decode cX3_dawn 95 = .ok (.putfield 39, 3) := by decide +kernel
theorem dX3_dawn_98 : decode cX3_dawn 98 = .ok (.aload_n 0, 1) := by decide +kernel
theorem dX3_dawn_99 : decode cX3_dawn 99 = .ok (.dup, 1) := by decide +kernel
theorem dX3_dawn_100 : decode cX3_dawn 100 = .ok (.getfield 70, 3) := by decide +kernel
theorem dX3_dawn_103 : decode cX3_dawn 103 = .ok (.iconst 1, 1) := by decide +kernel
theorem dX3_dawn_104 : decode cX3_dawn 104 = .ok (.iadd, 1) := by decide +kernel
theorem dX3_dawn_105 : decode cX3_dawn 105 = .ok (.putfield 70, 3) := by decide +kernel
theorem dX3_dawn_108 : decode cX3_dawn 108 = .ok (.iload_n 1, 1) := by decide +kernel
theorem dX3_dawn_109 : decode cX3_dawn 109 = .ok (.ireturn, 1) := by decide +kernel
theorem dX3_sum_0 : decode cX3_sum 0 = .ok (.iconst 0, 1) := by decide +kernel
theorem dX3_sum_1 : decode cX3_sum 1 = .ok (.istore_n 2, 1) := by decide +kernel
theorem dX3_sum_2 : decode cX3_sum 2 = .ok (.aload_n 0, 1) := by decide +kernel
theorem dX3_sum_3 : decode cX3_sum 3 = .ok (.getfield 18, 3) := by decide +kernel
theorem dX3_sum_6 : decode cX3_sum 6 = .ok (.astore_n 3, 1) := by decide +kernel
theorem dX3_sum_7 : decode cX3_sum 7 = .ok (.aload_n 3, 1) := by decide +kernel
theorem dX3_sum_8 : decode cX3_sum 8 = .ok (.arraylength, 1) := by decide +kernel
theorem dX3_sum_9 : decode cX3_sum 9 = .ok (.istore 4, 2) := by decide +kernel
theorem dX3_sum_11 : decode cX3_sum 11 = .ok (.iconst 0, 1) := by decide +kernel
theorem dX3_sum_12 : decode cX3_sum 12 = .ok (.istore 5, 2) := by decide +kernel
theorem dX3_sum_14 : decode cX3_sum 14 = .ok (.iload 5, 2) := by decide +kernel
theorem dX3_sum_16 : decode cX3_sum 16 = .ok (.iload 4, 2) := by decide +kernel
theorem dX3_sum_18 : decode cX3_sum 18 = .ok (.if_icmp .ge 22, 3) := by decide +kernel
theorem dX3_sum_21 : decode cX3_sum 21 = .ok (.aload_n 3, 1) := by decide +kernel
theorem dX3_sum_22 : decode cX3_sum 22 = .ok (.iload 5, 2) := by decide +kernel
theorem dX3_sum_24 : decode cX3_sum 24 = .ok (.aaload, 1) := by decide +kernel
theorem dX3_sum_25 : decode cX3_sum 25 = .ok (.astore 6, 2) := by decide +kernel
theorem dX3_sum_27 : decode cX3_sum 27 = .ok (.iload_n 2, 1) := by decide +kernel
theorem dX3_sum_28 : decode cX3_sum 28 = .ok (.aload 6, 2) := by decide +kernel
theorem dX3_sum_30 : decode cX3_sum 30 = .ok (.iload_n 1, 1) := by decide +kernel
theorem dX3_sum_31 : decode cX3_sum 31 = .ok (.iaload, 1) := by decide +kernel
theorem dX3_sum_32 : decode cX3_sum 32 = .ok (.iadd, 1) := by decide +kernel
theorem dX3_sum_33 : decode cX3_sum 33 = .ok (.istore_n 2, 1) := by decide +kernel
theorem dX3_sum_34 : decode cX3_sum 34 = .ok (.iinc 5 1, 3) := by decide +kernel
theorem dX3_sum_37 : decode cX3_sum 37 = .ok (.goto (-23), 3) := by decide +kernel
theorem dX3_sum_40 : decode cX3_sum 40 = .ok (.iload_n 2, 1) := by decide +kernel
theorem dX3_sum_41 : decode cX3_sum 41 = .ok (.ireturn, 1) := by decide +kernel
set_option maxRecDepth 20000 in
theorem ggX3_dark_X3_burning : GoodIn wsX3_dark wsX3_burning := goodIn_r _ [6, 7, 8, 9, 10, 11, 12, 13, 14, 15, 16, 17] (by decide +kernel) (by decide +kernel)
set_option maxRecDepth 20000 in
theorem gX3_dark_X3_burning : GoodIn wsX3_dark (wsV RX3 73 RX3 yX3_burning wsX3_burning) := goodIn_app (goodIn_of _ (by decide +kernel)) ggX3_dark_X3_burning
theorem dX3_dark_0 : decode cX3_dark 0 = .ok (.iconst 0, 1) := by decide +kernel
theorem dX3_dark_1 : decode cX3_dark 1 = .ok (.istore_n 1, 1) := by decide +kernel
theorem dX3_dark_2 : decode cX3_dark 2 = .ok (.iconst 0, 1) := by decide +kernel
theorem dX3_dark_3 : decode cX3_dark 3 = .ok (.istore_n 2, 1) := by decide +kernel
theorem dX3_dark_4 : decode cX3_dark 4 = .ok (.iload_n 2, 1) := by decide +kernel
theorem dX3_dark_5 : decode cX3_dark 5 = .ok (.aload_n 0, 1) := by decide +kernel
theorem dX3_dark_6 : decode cX3_dark 6 = .ok (.getfield 14, 3) := by decide +kernel
theorem dX3_dark_9 : decode cX3_dark 9 = .ok (.arraylength, 1) := by decide +kernel
theorem dX3_dark_10 : decode cX3_dark 10 = .ok (.if_icmp .ge 25, 3) := by decide +kernel
theorem dX3_dark_13 : decode cX3_dark 13 = .ok (.iload_n 1, 1) := by decide +kernel
theorem dX3_dark_14 : decode cX3_dark 14 = .ok (.aload_n 0, 1) := by decide +kernel
theorem dX3_dark_15 : decode cX3_dark 15 = .ok (.iload_n 2, 1) := by decide +kernel
theorem dX3_dark_16 : decode cX3_dark 16 = .ok (.invokevirtual 73, 3) := by decide +kernel
theorem dX3_dark_19 : decode cX3_dark 19 = .ok (.ifCond .ne 7, 3) := by decide +kernel
theorem dX3_dark_22 : decode cX3_dark 22 = .ok (.iconst 1, 1) := by decide +kernel
theorem dX3_dark_23 : decode cX3_dark 23 = .ok (.goto 4, 3) := by decide +kernel
theorem dX3_dark_26 : decode cX3_dark 26 = .ok (.iconst 0, 1) := by decide +kernel
theorem dX3_dark_27 : decode cX3_dark 27 = .ok (.iadd, 1) := by decide +kernel
theorem dX3_dark_28 : decode cX3_dark 28 = .ok (.istore_n 1, 1) := by decide +kernel
theorem dX3_dark_29 : decode cX3_dark 29 = .ok (.iinc 2 1, 3) := by decide +kernel
theorem dX3_dark_32 : decode cX3_dark 32 = .ok (.goto (-28), 3) := by decide +kernel
theorem dX3_dark_35 : decode cX3_dark 35 = .ok (.iload_n 1, 1) := by decide +kernel
theorem dX3_dark_36 : decode cX3_dark 36 = .ok (.ireturn, 1) := by decide +kernel
set_option maxRecDepth 20000 in
theorem ggX3_isSame_X3_goer : GoodIn wsX3_isSame wsX3_goer := goodIn_r _ [14, 3, 105, 106, 107, 108, 109, 110, 111, 112, 113, 114] (by decide +kernel) (by decide +kernel)
set_option maxRecDepth 20000 in
theorem gX3_isSame_X3_goer : GoodIn wsX3_isSame (wsV RX3 47 RX3 yX3_goer wsX3_goer) := goodIn_app (goodIn_of _ (by decide +kernel)) ggX3_isSame_X3_goer
set_option maxRecDepth 20000 in
theorem ggX3_isSame_X2_told : GoodIn wsX3_isSame wsX2_told := goodIn_ca (goodIn_r _ [19, 20, 21, 22, 23, 24, 25, 26, 27, 28, 29, 30, 31, 32, 18, 33, 34, 35, 36, 37, 38, 39, 40, 41, 42, 115, 116, 117, 118, 119, 120, 121, 122, 123, 124, 125, 126, 127, 128, 129, 130, 131, 132, 133, 134, 135, 136, 137, 138, 139, 140, 141, 142, 143, 144, 145, 146, 147, 148, 149, 150, 151] (by decide +kernel) (by decide +kernel)) (goodIn_sub (fun _ h => List.mem_cons_of_mem _ (List.mem_append_right _ h)) (by decide +kernel))
set_option maxRecDepth 20000 in
theorem gX3_isSame_X2_told : GoodIn wsX3_isSame (wsV RX3 76 RX2 yX2_told wsX2_told) := goodIn_app (goodIn_of _ (by decide +kernel)) ggX3_isSame_X2_told
set_option maxRecDepth 20000 in
theorem ggX3_isSame_X2_lighter : GoodIn wsX3_isSame wsX2_lighter := goodIn_ca (goodIn_r _ [46, 20, 47, 25, 48, 49, 50, 51, 52, 53, 54, 31, 32, 18, 33, 34, 35, 115, 116, 117, 118, 119, 120, 121, 122, 123, 124, 125, 126, 127, 128, 129, 130, 131, 132, 133, 134, 135, 136, 137, 138, 139, 140, 141, 142, 143, 144, 145, 146, 147, 148, 149, 150, 151] (by decide +kernel) (by decide +kernel)) (goodIn_sub (fun _ h => List.mem_cons_of_mem _ (List.mem_append_right _ h)) (by decide +kernel))
set_option maxRecDepth 20000 in
theorem gX3_isSame_X2_lighter : GoodIn wsX3_isSame (wsV RX3 81 RX2 yX2_lighter wsX2_lighter) := goodIn_app (goodIn_of _ (by decide +kernel)) ggX3_isSame_X2_lighter
set_option maxRecDepth 20000 in
theorem ggX3_isSame_X2_burning : GoodIn wsX3_isSame wsX2_burning := goodIn_ca (goodIn_r _ [58, 20, 59, 25, 60, 31, 32, 18, 33, 34, 35, 115, 116, 117, 118, 119, 120, 121, 122, 123, 124, 125, 126, 127, 128, 129, 130, 131, 132, 133, 134, 135, 136, 137, 138, 139, 140, 141, 142, 143, 144, 145, 146, 147, 148, 149, 150, 151] (by decide +kernel) (by decide +kernel)) (goodIn_sub (fun _ h => List.mem_cons_of_mem _ (List.mem_append_right _ h)) (by decide +kernel))
set_option maxRecDepth 20000 in
theorem gX3_isSame_X2_burning : GoodIn wsX3_isSame (wsV RX3 84 RX2 yX2_burning wsX2_burning) := goodIn_app (goodIn_of _ (by decide +kernel)) ggX3_isSame_X2_burning
set_option maxRecDepth 20000 in
theorem ggX3_isSame_X3_burning : GoodIn wsX3_isSame wsX3_burning := goodIn_r _ [64, 1, 105, 106, 107, 108, 109, 110, 111, 112, 113, 114] (by decide +kernel) (by decide +kernel)
set_option maxRecDepth 20000 in
theorem gX3_isSame_X3_burning : GoodIn wsX3_isSame (wsV RX3 73 RX3 yX3_burning wsX3_burning) := goodIn_app (goodIn_of _ (by decide +kernel)) ggX3_isSame_X3_burning
set_option maxRecDepth 20000 in
theorem ggX3_isSame_X3_sum : GoodIn wsX3_isSame wsX3_sum := goodIn_r _ [68, 1, 105, 106, 107, 108, 109, 110, 111, 112, 113, 114] (by decide +kernel) (by decide +kernel)
set_option maxRecDepth 20000 in
theorem gX3_isSame_X3_sum : GoodIn wsX3_isSame (wsV RX3 67 RX3 yX3_sum wsX3_sum) := goodIn_app (goodIn_of _ (by decide +kernel)) ggX3_isSame_X3_sum
set_option maxRecDepth 20000 in
theorem ggX3_isSame_X3_dark : GoodIn wsX3_isSame wsX3_dark := goodIn_r _ [72, 5, 61, 62, 63, 13, 64, 1, 105, 106, 107, 108, 109, 110, 111, 112, 113, 114] (by decide +kernel) (by decide +kernel)
set_option maxRecDepth 20000 in
theorem gX3_isSame_X3_dark : GoodIn wsX3_isSame (wsV RX3 85 RX3 yX3_dark wsX3_dark) := goodIn_app (goodIn_of _ (by decide +kernel)) ggX3_isSame_X3_dark
set_option maxRecDepth 20000 in
theorem ggX3_isSame_X2_count : GoodIn wsX3_isSame wsX2_count := goodIn_ca (goodIn_r _ [76, 25, 77, 78, 20, 79, 59, 21, 47, 80, 31, 32, 18, 33, 34, 35, 81, 82, 83, 39, 84, 85, 86, 87, 88, 89, 90, 91, 92, 93, 94, 95, 96, 97, 98, 99, 100, 115, 116, 117, 118, 136, 137, 138, 139, 140, 141, 142, 143, 144, 145, 146, 147, 148, 149, 150, 151, 119, 120, 121, 122, 123, 124, 125, 126, 127, 128, 129, 130, 131, 132, 133, 134, 135] (by decide +kernel) (by decide +kernel)) (goodIn_sub (fun _ h => List.mem_cons_of_mem _ (List.mem_append_right _ h)) (by decide +kernel))
set_option maxRecDepth 20000 in
theorem gX3_isSame_X2_count : GoodIn wsX3_isSame (wsV RX3 88 RX2 yX2_count wsX2_count) := goodIn_app (goodIn_of _ (by decide +kernel)) ggX3_isSame_X2_count
set_option maxRecDepth 20000 in
theorem ggX3_isSame_X2_mean : GoodIn wsX3_isSame wsX2_mean := goodIn_r _ [104, 20, 21, 25, 95, 96, 97, 39, 98, 99, 100, 115, 116, 117, 118, 119, 120, 121, 122, 123, 124, 125, 126, 127, 128, 129, 130, 131, 132, 133, 134, 135, 136, 137, 138, 139, 140, 141, 142, 143, 144, 145, 146, 147, 148, 149, 150, 151] (by decide +kernel) (by decide +kernel)
set_option maxRecDepth 20000 in
theorem gX3_isSame_X2_mean : GoodIn wsX3_isSame (wsV RX3 91 RX2 yX2_mean wsX2_mean) := goodIn_app (goodIn_of _ (by decide +kernel)) ggX3_isSame_X2_mean
theorem dX3_isSame_0 : decode cX3_isSame 0 = .ok (.iconst 0, 1) := by decide +kernel
theorem dX3_isSame_1 : decode cX3_isSame 1 = .ok (.istore_n 2, 1) := by decide +kernel
theorem dX3_isSame_2 : decode cX3_isSame 2 = .ok (.iload_n 2, 1) := by decide +kernel
theorem dX3_isSame_3 : decode cX3_isSame 3 = .ok (.aload_n 0, 1) := by decide +kernel
theorem dX3_isSame_4 : decode cX3_isSame 4 = .ok (.getfield 18, 3) := by decide +kernel
theorem dX3_isSame_7 : decode cX3_isSame 7 = .ok (.arraylength, 1) := by decide +kernel
theorem dX3_isSame_8 : decode cX3_isSame 8 = .ok (.if_icmp .ge 116, 3) := by decide +kernel
theorem dX3_isSame_11 : decode cX3_isSame 11 = .ok (.aload_n 0, 1) := by decide +kernel
theorem dX3_isSame_12 : decode cX3_isSame 12 = .ok (.getfield 18, 3) := by decide +kernel
theorem dX3_isSame_15 : decode cX3_isSame 15 = .ok (.iload_n 2, 1) := by decide +kernel
theorem dX3_isSame_16 : decode cX3_isSame 16 = .ok (.aaload, 1) := by decide +kernel
theorem dX3_isSame_17 : decode cX3_isSame 17 = .ok (.astore_n 3, 1) := by decide +kernel
theorem dX3_isSame_18 : decode cX3_isSame 18 = .ok (.bipush 9, 2) := by decide +kernel
theorem dX3_isSame_20 : decode cX3_isSame 20 = .ok (.newarray .int, 2) := by decide +kernel
theorem dX3_isSame_22 : decode cX3_isSame 22 = .ok (.dup, 1) := by decide +kernel
theorem dX3_isSame_23 : decode cX3_isSame 23 = .ok (.iconst 0, 1) := by decide +kernel
theorem dX3_isSame_24 : decode cX3_isSame 24 = .ok (.aload_n 3, 1) := by decide +kernel
theorem dX3_isSame_25 : decode cX3_isSame 25 = .ok (.iconst 0, 1) := by decide +kernel
theorem dX3_isSame_26 : decode cX3_isSame 26 = .ok (.iaload, 1) := by decide +kernel
theorem dX3_isSame_27 : decode cX3_isSame 27 = .ok (.iastore, 1) := by decide +kernel
theorem dX3_isSame_28 : decode cX3_isSame 28 = .ok (.dup, 1) := by decide +kernel
theorem dX3_isSame_29 : decode cX3_isSame 29 = .ok (.iconst 1, 1) := by decide +kernel
theorem dX3_isSame_30 : decode cX3_isSame 30 = .ok (.aload_n 3, 1) := by decide +kernel
theorem dX3_isSame_31 : decode cX3_isSame 31 = .ok (.iconst 1, 1) := by decide +kernel
theorem dX3_isSame_32 : decode cX3_isSame 32 = .ok (.iaload, 1) := by decide +kernel
theorem dX3_isSame_33 : decode cX3_isSame 33 = .ok (.iastore, 1) := by decide +kernel
theorem dX3_isSame_34 : decode cX3_isSame 34 = .ok (.dup, 1) := by decide +kernel
theorem dX3_isSame_35 : decode cX3_isSame 35 = .ok (.iconst 2, 1) := by decide +kernel
theorem dX3_isSame_36 : decode cX3_isSame 36 = .ok (.aload_n 3, 1) := by decide +kernel
theorem dX3_isSame_37 : decode cX3_isSame 37 = .ok (.iconst 2, 1) := by decide +kernel
theorem dX3_isSame_38 : decode cX3_isSame 38 = .ok (.iaload, 1) := by decide +kernel
theorem dX3_isSame_39 : decode cX3_isSame 39 = .ok (.iastore, 1) := by decide +kernel
theorem dX3_isSame_40 : decode cX3_isSame 40 = .ok (.dup, 1) := by decide +kernel
theorem dX3_isSame_41 : decode cX3_isSame 41 = .ok (.iconst 3, 1) := by decide +kernel
theorem dX3_isSame_42 : decode cX3_isSame 42 = .ok (.aload_n 3, 1) := by decide +kernel
theorem dX3_isSame_43 : decode cX3_isSame 43 = .ok (.iconst 3, 1) := by decide +kernel
theorem dX3_isSame_44 : decode cX3_isSame 44 = .ok (.iaload, 1) := by decide +kernel
theorem dX3_isSame_45 : decode cX3_isSame 45 = .ok (.iastore, 1) := by decide +kernel
theorem dX3_isSame_46 : decode cX3_isSame 46 = .ok (.dup, 1) := by decide +kernel
theorem dX3_isSame_47 : decode cX3_isSame 47 = .ok (.iconst 4, 1) := by decide +kernel
theorem dX3_isSame_48 : decode cX3_isSame 48 = .ok (.aload_n 3, 1) := by decide +kernel
theorem dX3_isSame_49 : decode cX3_isSame 49 = .ok (.iconst 4, 1) := by decide +kernel
theorem dX3_isSame_50 : decode cX3_isSame 50 = .ok (.iaload, 1) := by decide +kernel
theorem dX3_isSame_51 : decode cX3_isSame 51 = .ok (.iastore, 1) := by decide +kernel
theorem dX3_isSame_52 : decode cX3_isSame 52 = .ok (.dup, 1) := by decide +kernel
theorem dX3_isSame_53 : decode cX3_isSame 53 = .ok (.iconst 5, 1) := by decide +kernel
theorem dX3_isSame_54 : decode cX3_isSame 54 = .ok (.aload_n 3, 1) := by decide +kernel
theorem dX3_isSame_55 : decode cX3_isSame 55 = .ok (.iconst 5, 1) := by decide +kernel
theorem dX3_isSame_56 : decode cX3_isSame 56 = .ok (.iaload, 1) := by decide +kernel
theorem dX3_isSame_57 : decode cX3_isSame 57 = .ok (.iastore, 1) := by decide +kernel
theorem dX3_isSame_58 : decode cX3_isSame 58 = .ok (.dup, 1) := by decide +kernel
theorem dX3_isSame_59 : decode cX3_isSame 59 = .ok (.bipush 6, 2) := by decide +kernel
theorem dX3_isSame_61 : decode cX3_isSame 61 = .ok (.aload_n 0, 1) := by decide +kernel
theorem dX3_isSame_62 : decode cX3_isSame 62 = .ok (.iload_n 2, 1) := by decide +kernel
theorem dX3_isSame_63 : decode cX3_isSame 63 = .ok (.invokevirtual 47, 3) := by decide +kernel
theorem dX3_isSame_66 : decode cX3_isSame 66 = .ok (.iastore, 1) := by decide +kernel
theorem dX3_isSame_67 : decode cX3_isSame 67 = .ok (.dup, 1) := by decide +kernel
theorem dX3_isSame_68 : decode cX3_isSame 68 = .ok (.bipush 7, 2) := by decide +kernel
theorem dX3_isSame_70 : decode cX3_isSame 70 = .ok (.aload_n 3, 1) := by decide +kernel
theorem dX3_isSame_71 : decode cX3_isSame 71 = .ok (.bipush 6, 2) := by decide +kernel
theorem dX3_isSame_73 : decode cX3_isSame 73 = .ok (.iaload, 1) := by decide +kernel
theorem dX3_isSame_74 : decode cX3_isSame 74 = .ok (.iastore, 1) := by decide +kernel
theorem dX3_isSame_75 : decode cX3_isSame 75 = .ok (.dup, 1) := by decide +kernel
theorem dX3_isSame_76 : decode cX3_isSame 76 = .ok (.bipush 8, 2) := by decide +kernel
theorem dX3_isSame_78 : decode cX3_isSame 78 = .ok (.aload_n 3, 1) := by decide +kernel
theorem dX3_isSame_79 : decode cX3_isSame 79 = .ok (.bipush 7, 2) := by decide +kernel
theorem dX3_isSame_81 : decode cX3_isSame 81 = .ok (.iaload, 1) := by decide +kernel
theorem dX3_isSame_82 : decode cX3_isSame 82 = .ok (.iastore, 1) := by decide +kernel
theorem dX3_isSame_83 : decode cX3_isSame 83 = .ok (.astore 4, 2) := by decide +kernel
theorem dX3_isSame_85 : decode cX3_isSame 85 = .ok (.iconst 0, 1) := by decide +kernel
theorem dX3_isSame_86 : decode cX3_isSame 86 = .ok (.istore 5, 2) := by decide +kernel
theorem dX3_isSame_88 : decode cX3_isSame 88 = .ok (.iload 5, 2) := by decide +kernel
theorem dX3_isSame_90 : decode cX3_isSame 90 = .ok (.bipush 9, 2) := by decide +kernel
theorem dX3_isSame_92 : decode cX3_isSame 92 = .ok (.if_icmp .ge 26, 3) := by decide +kernel
theorem dX3_isSame_95 : decode cX3_isSame 95 = .ok (.aload_n 1, 1) := by decide +kernel
theorem dX3_isSame_96 : decode cX3_isSame 96 = .ok (.iload_n 2, 1) := by decide +kernel
theorem dX3_isSame_97 : decode cX3_isSame 97 = .ok (.iload 5, 2) := by decide +kernel
theorem dX3_isSame_99 : decode cX3_isSame 99 = .ok (.invokevirtual 76, 3) := by decide +kernel
theorem dX3_isSame_102 : decode cX3_isSame 102 = .ok (.aload 4, 2) := by decide +kernel
theorem dX3_isSame_104 : decode cX3_isSame 104 = .ok (.iload 5, 2) := by decide +kernel
theorem dX3_isSame_106 : decode cX3_isSame 106 = .ok (.iaload, 1) := by decide +kernel
theorem dX3_isSame_107 : decode cX3_isSame 107 = .ok (.if_icmp .eq 5, 3) := by decide +kernel
theorem dX3_isSame_110 : decode cX3_isSame 110 = .ok (.iconst 0, 1) := by decide +kernel
theorem dX3_isSame_111 : decode cX3_isSame 111 = .ok (.ireturn, 1) := by decide +kernel
theorem dX3_isSame_112 : decode cX3_isSame 112 = .ok (.iinc 5 1, 3) := by decide +kernel
theorem dX3_isSame_115 : decode cX3_isSame 115 = .ok (.goto (-27), 3) := by decide +kernel
theorem dX3_isSame_118 : decode cX3_isSame 118 = .ok (.iinc 2 1, 3) := by decide +kernel
theorem dX3_isSame_121 : decode cX3_isSame 121 = .ok (.goto (-119), 3) := by decide +kernel
theorem dX3_isSame_124 : decode cX3_isSame 124 = .ok (.iconst 0, 1) := by decide +kernel
theorem dX3_isSame_125 : decode cX3_isSame 125 = .ok (.istore_n 2, 1) := by decide +kernel
theorem dX3_isSame_126 : decode cX3_isSame 126 = .ok (.iload_n 2, 1) := by decide +kernel
theorem dX3_isSame_127 : decode cX3_isSame 127 = .ok (.aload_n 0, 1) := by decide +kernel
theorem dX3_isSame_128 : decode cX3_isSame 128 = .ok (.getfield 21, 3) := by decide +kernel
theorem dX3_isSame_131 : decode cX3_isSame 131 = .ok (.arraylength, 1) := by decide +kernel
theorem dX3_isSame_132 : decode cX3_isSame 132 = .ok (.if_icmp .ge 113, 3) := by decide +kernel
theorem dX3_isSame_135 : decode cX3_isSame 135 = .ok (.aload_n 0, 1) := by decide +kernel
theorem dX3_isSame_136 : decode cX3_isSame 136 = .ok (.getfield 21, 3) := by decide +kernel
theorem dX3_isSame_139 : decode cX3_isSame 139 = .ok (.iload_n 2, 1) := by decide +kernel
theorem dX3_isSame_140 : decode cX3_isSame 140 = .ok (.aaload, 1) := by decide +kernel
theorem dX3_isSame_141 : decode cX3_isSame 141 = .ok (.astore_n 3, 1) := by decide +kernel
theorem dX3_isSame_142 : decode cX3_isSame 142 = .ok (.bipush 7, 2) := by decide +kernel
theorem dX3_isSame_144 : decode cX3_isSame 144 = .ok (.newarray .int, 2) := by decide +kernel
theorem dX3_isSame_146 : decode cX3_isSame 146 = .ok (.dup, 1) := by decide +kernel
theorem dX3_isSame_147 : decode cX3_isSame 147 = .ok (.iconst 0, 1) := by decide +kernel
theorem dX3_isSame_148 : decode cX3_isSame 148 = .ok (.aload_n 3, 1) := by decide +kernel
theorem dX3_isSame_149 : decode cX3_isSame 149 = .ok (.iconst 1, 1) := by decide +kernel
theorem dX3_isSame_150 : decode cX3_isSame 150 = .ok (.iaload, 1) := by decide +kernel
theorem dX3_isSame_151 : decode cX3_isSame 151 = .ok (.iastore, 1) := by decide +kernel
theorem dX3_isSame_152 : decode cX3_isSame 152 = .ok (.dup, 1) := by decide +kernel
theorem dX3_isSame_153 : decode cX3_isSame 153 = .ok (.iconst 1, 1) := by decide +kernel
theorem dX3_isSame_154 : decode cX3_isSame 154 = .ok (.aload_n 3, 1) := by decide +kernel
theorem dX3_isSame_155 : decode cX3_isSame 155 = .ok (.iconst 2, 1) := by decide +kernel
theorem dX3_isSame_156 : decode cX3_isSame 156 = .ok (.iaload, 1) := by decide +kernel
theorem dX3_isSame_157 : decode cX3_isSame 157 = .ok (.iastore, 1) := by decide +kernel
theorem dX3_isSame_158 : decode cX3_isSame 158 = .ok (.dup, 1) := by decide +kernel
theorem dX3_isSame_159 : decode cX3_isSame 159 = .ok (.iconst 2, 1) := by decide +kernel
theorem dX3_isSame_160 : decode cX3_isSame 160 = .ok (.aload_n 3, 1) := by decide +kernel
theorem dX3_isSame_161 : decode cX3_isSame 161 = .ok (.iconst 3, 1) := by decide +kernel
theorem dX3_isSame_162 : decode cX3_isSame 162 = .ok (.iaload, 1) := by decide +kernel
theorem dX3_isSame_163 : decode cX3_isSame 163 = .ok (.iastore, 1) := by decide +kernel
theorem dX3_isSame_164 : decode cX3_isSame 164 = .ok (.dup, 1) := by decide +kernel
theorem dX3_isSame_165 : decode cX3_isSame 165 = .ok (.iconst 3, 1) := by decide +kernel
theorem dX3_isSame_166 : decode cX3_isSame 166 = .ok (.aload_n 0, 1) := by decide +kernel
theorem dX3_isSame_167 : decode cX3_isSame 167 = .ok (.getfield 24, 3) := by decide +kernel
theorem dX3_isSame_170 : decode cX3_isSame 170 = .ok (.iload_n 2, 1) := by decide +kernel
theorem dX3_isSame_171 : decode cX3_isSame 171 = .ok (.aaload, 1) := by decide +kernel
theorem dX3_isSame_172 : decode cX3_isSame 172 = .ok (.arraylength, 1) := by decide +kernel
theorem dX3_isSame_173 : decode cX3_isSame 173 = .ok (.iastore, 1) := by decide +kernel
theorem dX3_isSame_174 : decode cX3_isSame 174 = .ok (.dup, 1) := by decide +kernel
theorem dX3_isSame_175 : decode cX3_isSame 175 = .ok (.iconst 4, 1) := by decide +kernel
theorem dX3_isSame_176 : decode cX3_isSame 176 = .ok (.aload_n 3, 1) := by decide +kernel
theorem dX3_isSame_177 : decode cX3_isSame 177 = .ok (.iconst 4, 1) := by decide +kernel
theorem dX3_isSame_178 : decode cX3_isSame 178 = .ok (.iaload, 1) := by decide +kernel
theorem dX3_isSame_179 : decode cX3_isSame 179 = .ok (.iastore, 1) := by decide +kernel
theorem dX3_isSame_180 : decode cX3_isSame 180 = .ok (.dup, 1) := by decide +kernel
theorem dX3_isSame_181 : decode cX3_isSame 181 = .ok (.iconst 5, 1) := by decide +kernel
theorem dX3_isSame_182 : decode cX3_isSame 182 = .ok (.aload_n 3, 1) := by decide +kernel
theorem dX3_isSame_183 : decode cX3_isSame 183 = .ok (.iconst 4, 1) := by decide +kernel
theorem dX3_isSame_184 : decode cX3_isSame 184 = .ok (.iaload, 1) := by decide +kernel
theorem dX3_isSame_185 : decode cX3_isSame 185 = .ok (.ifCond .ge 7, 3) := by decide +kernel
theorem dX3_isSame_188 : decode cX3_isSame 188 = .ok (.iconst 0, 1) := by decide +kernel
theorem dX3_isSame_189 : decode cX3_isSame 189 = .ok (.goto 6, 3) := by decide +kernel
theorem dX3_isSame_192 : decode cX3_isSame 192 = .ok (.aload_n 3, 1) := by decide +kernel
theorem dX3_isSame_193 : decode cX3_isSame 193 = .ok (.iconst 5, 1) := by decide +kernel
theorem dX3_isSame_194 : decode cX3_isSame 194 = .ok (.iaload, 1) := by decide +kernel
theorem dX3_isSame_195 : decode cX3_isSame 195 = .ok (.iastore, 1) := by decide +kernel
theorem dX3_isSame_196 : decode cX3_isSame 196 = .ok (.dup, 1) := by decide +kernel
theorem dX3_isSame_197 : decode cX3_isSame 197 = .ok (.bipush 6, 2) := by decide +kernel
theorem dX3_isSame_199 : decode cX3_isSame 199 = .ok (.aload_n 3, 1) := by decide +kernel
theorem dX3_isSame_200 : decode cX3_isSame 200 = .ok (.bipush 8, 2) := by decide +kernel
theorem dX3_isSame_202 : decode cX3_isSame 202 = .ok (.iaload, 1) := by decide +kernel
theorem dX3_isSame_203 : decode cX3_isSame 203 = .ok (.iastore, 1) := by decide +kernel
theorem dX3_isSame_204 : decode cX3_isSame 204 = .ok (.astore 4, 2) := by decide +kernel
theorem dX3_isSame_206 : decode cX3_isSame 206 = .ok (.iconst 0, 1) := by decide +kernel
theorem dX3_isSame_207 : decode cX3_isSame 207 = .ok (.istore 5, 2) := by decide +kernel
theorem dX3_isSame_209 : decode cX3_isSame 209 = .ok (.iload 5, 2) := by decide +kernel
theorem dX3_isSame_211 : decode cX3_isSame 211 = .ok (.bipush 7, 2) := by decide +kernel
theorem dX3_isSame_213 : decode cX3_isSame 213 = .ok (.if_icmp .ge 26, 3) := by decide +kernel
theorem dX3_isSame_216 : decode cX3_isSame 216 = .ok (.aload_n 1, 1) := by decide +kernel
theorem dX3_isSame_217 : decode cX3_isSame 217 = .ok (.iload_n 2, 1) := by decide +kernel
theorem dX3_isSame_218 : decode cX3_isSame 218 = .ok (.iload 5, 2) := by decide +kernel
theorem dX3_isSame_220 : decode cX3_isSame 220 = .ok (.invokevirtual 81, 3) := by decide +kernel
theorem dX3_isSame_223 : decode cX3_isSame 223 = .ok (.aload 4, 2) := by decide +kernel
theorem dX3_isSame_225 : decode cX3_isSame 225 = .ok (.iload 5, 2) := by decide +kernel
theorem dX3_isSame_227 : decode cX3_isSame 227 = .ok (.iaload, 1) := by decide +kernel
theorem dX3_isSame_228 : decode cX3_isSame 228 = .ok (.if_icmp .eq 5, 3) := by decide +kernel
theorem dX3_isSame_231 : decode cX3_isSame 231 = .ok (.iconst 0, 1) := by decide +kernel
theorem dX3_isSame_232 : decode cX3_isSame 232 = .ok (.ireturn, 1) := by decide +kernel
theorem dX3_isSame_233 : decode cX3_isSame 233 = .ok (.iinc 5 1, 3) := by decide +kernel
theorem dX3_isSame_236 : decode cX3_isSame 236 = .ok (.goto (-27), 3) := by decide +kernel
theorem dX3_isSame_239 : decode cX3_isSame 239 = .ok (.iinc 2 1, 3) := by decide +kernel
theorem dX3_isSame_242 : decode cX3_isSame 242 = .ok (.goto (-116), 3) := by decide +kernel
theorem dX3_isSame_245 : decode cX3_isSame 245 = .ok (.iconst 0, 1) := by decide +kernel
theorem dX3_isSame_246 : decode cX3_isSame 246 = .ok (.istore_n 2, 1) := by decide +kernel
theorem dX3_isSame_247 : decode cX3_isSame 247 = .ok (.iload_n 2, 1) := by decide +kernel
theorem dX3_isSame_248 : decode cX3_isSame 248 = .ok (.aload_n 0, 1) := by decide +kernel
theorem dX3_isSame_249 : decode cX3_isSame 249 = .ok (.getfield 14, 3) := by decide +kernel
theorem dX3_isSame_252 : decode cX3_isSame 252 = .ok (.arraylength, 1) := by decide +kernel
theorem dX3_isSame_253 : decode cX3_isSame 253 = .ok (.if_icmp .ge 24, 3) := by decide +kernel
theorem dX3_isSame_256 : decode cX3_isSame 256 = .ok (.aload_n 1, 1) := by decide +kernel
theorem dX3_isSame_257 : decode cX3_isSame 257 = .ok (.iload_n 2, 1) := by decide +kernel
theorem dX3_isSame_258 : decode cX3_isSame 258 = .ok (.invokevirtual 84, 3) := by decide +kernel
theorem dX3_isSame_261 : decode cX3_isSame 261 = .ok (.aload_n 0, 1) := by decide +kernel
theorem dX3_isSame_262 : decode cX3_isSame 262 = .ok (.iload_n 2, 1) := by decide +kernel
theorem dX3_isSame_263 : decode cX3_isSame 263 = .ok (.invokevirtual 73, 3) := by decide +kernel
theorem dX3_isSame_266 : decode cX3_isSame 266 = .ok (.if_icmp .eq 5, 3) := by decide +kernel
theorem dX3_isSame_269 : decode cX3_isSame 269 = .ok (.iconst 0, 1) := by decide +kernel
theorem dX3_isSame_270 : decode cX3_isSame 270 = .ok (.ireturn, 1) := by decide +kernel
theorem dX3_isSame_271 : decode cX3_isSame 271 = .ok (.iinc 2 1, 3) := by decide +kernel
theorem dX3_isSame_274 : decode cX3_isSame 274 = .ok (.goto (-27), 3) := by decide +kernel
theorem dX3_isSame_277 : decode cX3_isSame 277 = .ok (.bipush 10, 2) := by decide +kernel
theorem dX3_isSame_279 : decode cX3_isSame 279 = .ok (.newarray .int, 2) := by decide +kernel
theorem dX3_isSame_281 : decode cX3_isSame 281 = .ok (.dup, 1) := by decide +kernel
theorem dX3_isSame_282 : decode cX3_isSame 282 = .ok (.iconst 0, 1) := by decide +kernel
theorem dX3_isSame_283 : decode cX3_isSame 283 = .ok (.aload_n 0, 1) := by decide +kernel
theorem dX3_isSame_284 : decode cX3_isSame 284 = .ok (.getfield 39, 3) := by decide +kernel
theorem dX3_isSame_287 : decode cX3_isSame 287 = .ok (.iastore, 1) := by decide +kernel
theorem dX3_isSame_288 : decode cX3_isSame 288 = .ok (.dup, 1) := by decide +kernel
theorem dX3_isSame_289 : decode cX3_isSame 289 = .ok (.iconst 1, 1) := by decide +kernel
theorem dX3_isSame_290 : decode cX3_isSame 290 = .ok (.aload_n 0, 1) := by decide +kernel
theorem dX3_isSame_291 : decode cX3_isSame 291 = .ok (.getfield 70, 3) := by decide +kernel
theorem dX3_isSame_294 : decode cX3_isSame 294 = .ok (.iastore, 1) := by decide +kernel
theorem dX3_isSame_295 : decode cX3_isSame 295 = .ok (.dup, 1) := by decide +kernel
theorem dX3_isSame_296 : decode cX3_isSame 296 = .ok (.iconst 2, 1) := by decide +kernel
theorem dX3_isSame_297 : decode cX3_isSame 297 = .ok (.aload_n 0, 1) := by decide +kernel
theorem dX3_isSame_298 : decode cX3_isSame 298 = .ok (.getfield 7, 3) := by decide +kernel
theorem dX3_isSame_301 : decode cX3_isSame 301 = .ok (.arraylength, 1) := by decide +kernel
theorem dX3_isSame_302 : decode cX3_isSame 302 = .ok (.iastore, 1) := by decide +kernel
theorem dX3_isSame_303 : decode cX3_isSame 303 = .ok (.dup, 1) := by decide +kernel
theorem dX3_isSame_304 : decode cX3_isSame 304 = .ok (.iconst 3, 1) := by decide +kernel
theorem dX3_isSame_305 : decode cX3_isSame 305 = .ok (.aload_n 0, 1) := by decide +kernel
theorem dX3_isSame_306 : decode cX3_isSame 306 = .ok (.getfield 14, 3) := by decide +kernel
theorem dX3_isSame_309 : decode cX3_isSame 309 = .ok (.arraylength, 1) := by decide +kernel
theorem dX3_isSame_310 : decode cX3_isSame 310 = .ok (.iastore, 1) := by decide +kernel
theorem dX3_isSame_311 : decode cX3_isSame 311 = .ok (.dup, 1) := by decide +kernel
theorem dX3_isSame_312 : decode cX3_isSame 312 = .ok (.iconst 4, 1) := by decide +kernel
theorem dX3_isSame_313 : decode cX3_isSame 313 = .ok (.aload_n 0, 1) := by decide +kernel
theorem dX3_isSame_314 : decode cX3_isSame 314 = .ok (.getfield 18, 3) := by decide +kernel
theorem dX3_isSame_317 : decode cX3_isSame 317 = .ok (.arraylength, 1) := by decide +kernel
theorem dX3_isSame_318 : decode cX3_isSame 318 = .ok (.iastore, 1) := by decide +kernel
theorem dX3_isSame_319 : decode cX3_isSame 319 = .ok (.dup, 1) := by decide +kernel
theorem dX3_isSame_320 : decode cX3_isSame 320 = .ok (.iconst 5, 1) := by decide +kernel
theorem dX3_isSame_321 : decode cX3_isSame 321 = .ok (.aload_n 0, 1) := by decide +kernel
theorem dX3_isSame_322 : decode cX3_isSame 322 = .ok (.iconst 5, 1) := by decide +kernel
theorem dX3_isSame_323 : decode cX3_isSame 323 = .ok (.invokevirtual 67, 3) := by decide +kernel
theorem dX3_isSame_326 : decode cX3_isSame 326 = .ok (.iastore, 1) := by decide +kernel
theorem dX3_isSame_327 : decode cX3_isSame 327 = .ok (.dup, 1) := by decide +kernel
theorem dX3_isSame_328 : decode cX3_isSame 328 = .ok (.bipush 6, 2) := by decide +kernel
theorem dX3_isSame_330 : decode cX3_isSame 330 = .ok (.aload_n 0, 1) := by decide +kernel
theorem dX3_isSame_331 : decode cX3_isSame 331 = .ok (.invokevirtual 85, 3) := by decide +kernel
theorem dX3_isSame_334 : decode cX3_isSame 334 = .ok (.iastore, 1) := by decide +kernel
theorem dX3_isSame_335 : decode cX3_isSame 335 = .ok (.dup, 1) := by decide +kernel
theorem dX3_isSame_336 : decode cX3_isSame 336 = .ok (.bipush 7, 2) := by decide +kernel
theorem dX3_isSame_338 : decode cX3_isSame 338 = .ok (.aload_n 0, 1) := by decide +kernel
theorem dX3_isSame_339 : decode cX3_isSame 339 = .ok (.getfield 21, 3) := by decide +kernel
theorem dX3_isSame_342 : decode cX3_isSame 342 = .ok (.arraylength, 1) := by decide +kernel
theorem dX3_isSame_343 : decode cX3_isSame 343 = .ok (.iastore, 1) := by decide +kernel
theorem dX3_isSame_344 : decode cX3_isSame 344 = .ok (.dup, 1) := by decide +kernel
theorem dX3_isSame_345 : decode cX3_isSame 345 = .ok (.bipush 8, 2) := by decide +kernel
theorem dX3_isSame_347 : decode cX3_isSame 347 = .ok (.aload_n 0, 1) := by decide +kernel
theorem dX3_isSame_348 : decode cX3_isSame 348 = .ok (.iconst 3, 1) := by decide +kernel
theorem dX3_isSame_349 : decode cX3_isSame 349 = .ok (.invokevirtual 67, 3) := by decide +kernel
theorem dX3_isSame_352 : decode cX3_isSame 352 = .ok (.iastore, 1) := by decide +kernel
theorem dX3_isSame_353 : decode cX3_isSame 353 = .ok (.dup, 1) := by decide +kernel
theorem dX3_isSame_354 : decode cX3_isSame 354 = .ok (.bipush 9, 2) := by decide +kernel
theorem dX3_isSame_356 : decode cX3_isSame 356 = .ok (.aload_n 0, 1) := by decide +kernel
theorem dX3_isSame_357 : decode cX3_isSame 357 = .ok (.getfield 55, 3) := by decide +kernel
theorem dX3_isSame_360 : decode cX3_isSame 360 = .ok (.iastore, 1) := by decide +kernel
theorem dX3_isSame_361 : decode cX3_isSame 361 = .ok (.astore_n 2, 1) := by decide +kernel
theorem dX3_isSame_362 : decode cX3_isSame 362 = .ok (.iconst 0, 1) := by decide +kernel
theorem dX3_isSame_363 : decode cX3_isSame 363 = .ok (.istore_n 3, 1) := by decide +kernel
theorem dX3_isSame_364 : decode cX3_isSame 364 = .ok (.iload_n 3, 1) := by decide +kernel
theorem dX3_isSame_365 : decode cX3_isSame 365 = .ok (.bipush 10, 2) := by decide +kernel
theorem dX3_isSame_367 : decode cX3_isSame 367 = .ok (.if_icmp .ge 22, 3) := by decide +kernel
theorem dX3_isSame_370 : decode cX3_isSame 370 = .ok (.aload_n 1, 1) := by decide +kernel
theorem dX3_isSame_371 : decode cX3_isSame 371 = .ok (.iload_n 3, 1) := by decide +kernel
theorem dX3_isSame_372 : decode cX3_isSame 372 = .ok (.invokevirtual 88, 3) := by decide +kernel
theorem dX3_isSame_375 : decode cX3_isSame 375 = .ok (.aload_n 2, 1) := by decide +kernel
theorem dX3_isSame_376 : decode cX3_isSame 376 = .ok (.iload_n 3, 1) := by decide +kernel
theorem dX3_isSame_377 : decode cX3_isSame 377 = .ok (.iaload, 1) := by decide +kernel
theorem dX3_isSame_378 : decode cX3_isSame 378 = .ok (.if_icmp .eq 5, 3) := by decide +kernel
theorem dX3_isSame_381 : decode cX3_isSame 381 = .ok (.iconst 0, 1) := by decide +kernel
theorem dX3_isSame_382 : decode cX3_isSame 382 = .ok (.ireturn, 1) := by decide +kernel
theorem dX3_isSame_383 : decode cX3_isSame 383 = .ok (.iinc 3 1, 3) := by decide +kernel
theorem dX3_isSame_386 : decode cX3_isSame 386 = .ok (.goto (-22), 3) := by decide +kernel
theorem dX3_isSame_389 : decode cX3_isSame 389 = .ok (.aload_n 1, 1) := by decide +kernel
theorem dX3_isSame_390 : decode cX3_isSame 390 = .ok (.invokevirtual 91, 3) := by decide +kernel
theorem dX3_isSame_393 : decode cX3_isSame 393 = .ok (.aload_n 0, 1) := by decide +kernel
theorem dX3_isSame_394 : decode cX3_isSame 394 = .ok (.getfield 18, 3) := by decide +kernel
theorem dX3_isSame_397 : decode cX3_isSame 397 = .ok (.arraylength, 1) := by decide +kernel
theorem dX3_isSame_398 : decode cX3_isSame 398 = .ok (.ifCond .ne 7, 3) := by decide +kernel
theorem dX3_isSame_401 : decode cX3_isSame 401 = .ok (.dconst 0, 1) := by decide +kernel
theorem dX3_isSame_402 : decode cX3_isSame 402 = .ok (.goto 16, 3) := by decide +kernel
theorem dX3_isSame_405 : decode cX3_isSame 405 = .ok (.aload_n 0, 1) := by decide +kernel
theorem dX3_isSame_406 : decode cX3_isSame 406 = .ok (.iconst 3, 1) := by decide +kernel
theorem dX3_isSame_407 : decode cX3_isSame 407 = .ok (.invokevirtual 67, 3) := by decide +kernel
theorem dX3_isSame_410 : decode cX3_isSame 410 = .ok (.i2d, 1) := by decide +kernel
theorem dX3_isSame_411 : decode cX3_isSame 411 = .ok (.aload_n 0, 1) := by decide +kernel
theorem dX3_isSame_412 : decode cX3_isSame 412 = .ok (.getfield 18, 3) := by decide +kernel
theorem dX3_isSame_415 : decode cX3_isSame 415 = .ok (.arraylength, 1) := by decide +kernel
theorem dX3_isSame_416 : decode cX3_isSame 416 = .ok (.i2d, 1) := by decide +kernel
theorem dX3_isSame_417 : decode cX3_isSame 417 = .ok (.ddiv, 1) := by decide +kernel
theorem dX3_isSame_418 : decode cX3_isSame 418 = .ok (.dcmp .l, 1) := by decide +kernel
theorem dX3_isSame_419 : decode cX3_isSame 419 = .ok (.ifCond .ne 7, 3) := by decide +kernel
theorem dX3_isSame_422 : decode cX3_isSame 422 = .ok (.iconst 1, 1) := by decide +kernel
theorem dX3_isSame_423 : decode cX3_isSame 423 = .ok (.goto 4, 3) := by decide +kernel
theorem dX3_isSame_426 : decode cX3_isSame 426 = .ok (.iconst 0, 1) := by decide +kernel
theorem dX3_isSame_427 : decode cX3_isSame 427 = .ok (.ireturn, 1) := by decide +kernel
