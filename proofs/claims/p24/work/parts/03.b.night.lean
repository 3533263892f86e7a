theorem dX0_init_0 : decode cX0_init 0 = .ok (.aload_n 0, 1) := by decide +kernel
theorem dX0_init_1 : decode cX0_init 1 = .ok (.invokespecial 3, 3) := by decide +kernel
theorem dX0_init_4 : decode cX0_init 4 = .ok (.aload_n 0, 1) := by decide +kernel
theorem dX0_init_5 : decode cX0_init 5 = .ok (.bipush 18, 2) := by decide +kernel
theorem dX0_init_7 : decode cX0_init 7 = .ok (.newarray .int, 2) := by decide +kernel
theorem dX0_init_9 : decode cX0_init 9 = .ok (.putfield 9, 3) := by decide +kernel
theorem dX0_init_12 : decode cX0_init 12 = .ok (.aload_n 0, 1) := by decide +kernel
theorem dX0_init_13 : decode cX0_init 13 = .ok (.bipush 20, 2) := by decide +kernel
theorem dX0_init_15 : decode cX0_init 15 = .ok (.newarray .int, 2) := by decide +kernel
theorem dX0_init_17 : decode cX0_init 17 = .ok (.putfield 15, 3) := by decide +kernel
theorem dX0_init_20 : decode cX0_init 20 = .ok (.aload_n 0, 1) := by decide +kernel
theorem dX0_init_21 : decode cX0_init 21 = .ok (.bipush 20, 2) := by decide +kernel
theorem dX0_init_23 : decode cX0_init 23 = .ok (.newarray .int, 2) := by decide +kernel
theorem dX0_init_25 : decode cX0_init 25 = .ok (.putfield 18, 3) := by decide +kernel
theorem dX0_init_28 : decode cX0_init 28 = .ok (.aload_n 0, 1) := by decide +kernel
theorem dX0_init_29 : decode cX0_init 29 = .ok (.bipush 20, 2) := by decide +kernel
theorem dX0_init_31 : decode cX0_init 31 = .ok (.newarray .boolean, 2) := by decide +kernel
theorem dX0_init_33 : decode cX0_init 33 = .ok (.putfield 21, 3) := by decide +kernel
theorem dX0_init_36 : decode cX0_init 36 = .ok (.aload_n 0, 1) := by decide +kernel
theorem dX0_init_37 : decode cX0_init 37 = .ok (.bipush 20, 2) := by decide +kernel
theorem dX0_init_39 : decode cX0_init 39 = .ok (.newarray .int, 2) := by decide +kernel
theorem dX0_init_41 : decode cX0_init 41 = .ok (.putfield 25, 3) := by decide +kernel
theorem dX0_init_44 : decode cX0_init 44 = .ok (.aload_n 0, 1) := by decide +kernel
theorem dX0_init_45 : decode cX0_init 45 = .ok (.bipush 20, 2) := by decide +kernel
theorem dX0_init_47 : decode cX0_init 47 = .ok (.newarray .int, 2) := by decide +kernel
theorem dX0_init_49 : decode cX0_init 49 = .ok (.putfield 28, 3) := by decide +kernel
theorem dX0_init_52 : decode cX0_init 52 = .ok (.aload_n 0, 1) := by decide +kernel
theorem dX0_init_53 : decode cX0_init 53 = .ok (.iconst 4, 1) := by decide +kernel
theorem dX0_init_54 : decode cX0_init 54 = .ok (.newarray .int, 2) := by decide +kernel
theorem dX0_init_56 : decode cX0_init 56 = .ok (.putfield 31, 3) := by decide +kernel
theorem dX0_init_59 : decode cX0_init 59 = .ok (.aload_n 0, 1) := by decide +kernel
theorem dX0_init_60 : decode cX0_init 60 = .ok (.iconst 4, 1) := by decide +kernel
theorem dX0_init_61 : decode cX0_init 61 = .ok (.newarray .int, 2) := by decide +kernel
theorem dX0_init_63 : decode cX0_init 63 = .ok (.putfield 34, 3) := by decide +kernel
theorem dX0_init_66 : decode cX0_init 66 = .ok (.aload_n 0, 1) := by decide +kernel
theorem dX0_init_67 : decode cX0_init 67 = .ok (.iconst 4, 1) := by decide +kernel
theorem dX0_init_68 : decode cX0_init 68 = .ok (.newarray .int, 2) := by decide +kernel
theorem dX0_init_70 : decode cX0_init 70 = .ok (.putfield 37, 3) := by decide +kernel
theorem dX0_init_73 : decode cX0_init 73 = .ok (.aload_n 0, 1) := by decide +kernel
theorem dX0_init_74 : decode cX0_init 74 = .ok (.iconst 4, 1) := by decide +kernel
theorem dX0_init_75 : decode cX0_init 75 = .ok (.newarray .int, 2) := by decide +kernel
theorem dX0_init_77 : decode cX0_init 77 = .ok (.putfield 40, 3) := by decide +kernel
theorem dX0_init_80 : decode cX0_init 80 = .ok (.aload_n 0, 1) := by decide +kernel
theorem dX0_init_81 : decode cX0_init 81 = .ok (.iconst 4, 1) := by decide +kernel
theorem dX0_init_82 : decode cX0_init 82 = .ok (.newarray .int, 2) := by decide +kernel
theorem dX0_init_84 : decode cX0_init 84 = .ok (.putfield 43, 3) := by decide +kernel
theorem dX0_init_87 : decode cX0_init 87 = .ok (.aload_n 0, 1) := by decide +kernel
theorem dX0_init_88 : decode cX0_init 88 = .ok (.iconst 4, 1) := by decide +kernel
theorem dX0_init_89 : decode cX0_init 89 = .ok (.newarray .int, 2) := by decide +kernel
theorem dX0_init_91 : decode cX0_init 91 = .ok (.putfield 46, 3) := by decide +kernel
theorem dX0_init_94 : decode cX0_init 94 = .ok (.aload_n 0, 1) := by decide +kernel
theorem dX0_init_95 : decode cX0_init 95 = .ok (.iconst 4, 1) := by decide +kernel
theorem dX0_init_96 : decode cX0_init 96 = .ok (.newarray .int, 2) := by decide +kernel
theorem dX0_init_98 : decode cX0_init 98 = .ok (.putfield 49, 3) := by decide +kernel
theorem dX0_init_101 : decode cX0_init 101 = .ok (.return_, 1) := by decide +kernel
theorem dX0_copy_0 : decode cX0_copy 0 = .ok (.aload_n 0, 1) := by decide +kernel
theorem dX0_copy_1 : decode cX0_copy 1 = .ok (.aload_n 1, 1) := by decide +kernel
theorem dX0_copy_2 : decode cX0_copy 2 = .ok (.getfield 52, 3) := by decide +kernel
theorem dX0_copy_5 : decode cX0_copy 5 = .ok (.putfield 52, 3) := by decide +kernel
theorem dX0_copy_8 : decode cX0_copy 8 = .ok (.aload_n 0, 1) := by decide +kernel
theorem dX0_copy_9 : decode cX0_copy 9 = .ok (.aload_n 1, 1) := by decide +kernel
theorem dX0_copy_10 : decode cX0_copy 10 = .ok (.getfield 56, 3) := by decide +kernel
theorem dX0_copy_13 : decode cX0_copy 13 = .ok (.putfield 56, 3) := by decide +kernel
theorem dX0_copy_16 : decode cX0_copy 16 = .ok (.aload_n 0, 1) := by decide +kernel
theorem dX0_copy_17 : decode cX0_copy 17 = .ok (.aload_n 1, 1) := by decide +kernel
theorem dX0_copy_18 : decode cX0_copy 18 = .ok (.getfield 59, 3) := by decide +kernel
theorem dX0_copy_21 : decode cX0_copy 21 = .ok (.putfield 59, 3) := by decide +kernel
theorem dX0_copy_24 : decode cX0_copy 24 = .ok (.aload_n 1, 1) := by decide +kernel
theorem dX0_copy_25 : decode cX0_copy 25 = .ok (.getfield 9, 3) := by decide +kernel
theorem dX0_copy_28 : decode cX0_copy 28 = .ok (.iconst 0, 1) := by decide +kernel
theorem dX0_copy_29 : decode cX0_copy 29 = .ok (.aload_n 0, 1) := by decide +kernel
theorem dX0_copy_30 : decode cX0_copy 30 = .ok (.getfield 9, 3) := by decide +kernel
theorem dX0_copy_33 : decode cX0_copy 33 = .ok (.iconst 0, 1) := by decide +kernel
theorem dX0_copy_34 : decode cX0_copy 34 = .ok (.bipush 18, 2) := by decide +kernel
theorem dX0_copy_36 : decode cX0_copy 36 = .ok (.invokestatic 62, 3) := by decide +kernel
theorem dX0_copy_39 : decode cX0_copy 39 = .ok (.iconst 0, 1) := by decide +kernel
theorem dX0_copy_40 : decode cX0_copy 40 = .ok (.istore_n 2, 1) := by decide +kernel
theorem dX0_copy_41 : decode cX0_copy 41 = .ok (.iload_n 2, 1) := by decide +kernel
theorem dX0_copy_42 : decode cX0_copy 42 = .ok (.bipush 20, 2) := by decide +kernel
theorem dX0_copy_44 : decode cX0_copy 44 = .ok (.if_icmp .ge 69, 3) := by decide +kernel
theorem dX0_copy_47 : decode cX0_copy 47 = .ok (.aload_n 0, 1) := by decide +kernel
theorem dX0_copy_48 : decode cX0_copy 48 = .ok (.getfield 15, 3) := by decide +kernel
theorem dX0_copy_51 : decode cX0_copy 51 = .ok (.iload_n 2, 1) := by decide +kernel
theorem dX0_copy_52 : decode cX0_copy 52 = .ok (.aload_n 1, 1) := by decide +kernel
theorem dX0_copy_53 : decode cX0_copy 53 = .ok (.getfield 15, 3) := by decide +kernel
theorem dX0_copy_56 : decode cX0_copy 56 = .ok (.iload_n 2, 1) := by decide +kernel
theorem dX0_copy_57 : decode cX0_copy 57 = .ok (.iaload, 1) := by decide +kernel
theorem dX0_copy_58 : decode cX0_copy 58 = .ok (.iastore, 1) := by decide +kernel
theorem dX0_copy_59 : decode cX0_copy 59 = .ok (.aload_n 0, 1) := by decide +kernel
theorem dX0_copy_60 : decode cX0_copy 60 = .ok (.getfield 18, 3) := by decide +kernel
theorem dX0_copy_63 : decode cX0_copy 63 = .ok (.iload_n 2, 1) := by decide +kernel
theorem dX0_copy_64 : decode cX0_copy 64 = .ok (.aload_n 1, 1) := by decide +kernel
theorem dX0_copy_65 : decode cX0_copy 65 = .ok (.getfield 18, 3) := by decide +kernel
theorem dX0_copy_68 : decode cX0_copy 68 = .ok (.iload_n 2, 1) := by decide +kernel
theorem dX0_copy_69 : decode cX0_copy 69 = .ok (.iaload, 1) := by decide +kernel
theorem dX0_copy_70 : decode cX0_copy 70 = .ok (.iastore, 1) := by decide +kernel
theorem dX0_copy_71 : decode cX0_copy 71 = .ok (.aload_n 0, 1) := by decide +kernel
theorem dX0_copy_72 : decode cX0_copy 72 = .ok (.getfield 21, 3) := by decide +kernel
theorem dX0_copy_75 : decode cX0_copy 75 = .ok (.iload_n 2, 1) := by decide +kernel
theorem dX0_copy_76 : decode cX0_copy 76 = .ok (.aload_n 1, 1) := by decide +kernel
theorem dX0_copy_77 : decode cX0_copy 77 = .ok (.getfield 21, 3) := by decide +kernel
theorem dX0_copy_80 : decode cX0_copy 80 = .ok (.iload_n 2, 1) := by decide +kernel
theorem dX0_copy_81 : decode cX0_copy 81 = .ok (.baload, 1) := by decide +kernel
theorem dX0_copy_82 : decode cX0_copy 82 = .ok (.bastore, 1) := by decide +kernel
theorem dX0_copy_83 : decode cX0_copy 83 = .ok (.aload_n 0, 1) := by decide +kernel
theorem dX0_copy_84 : decode cX0_copy 84 = .ok (.getfield 25, 3) := by decide +kernel
theorem dX0_copy_87 : decode cX0_copy 87 = .ok (.iload_n 2, 1) := by decide +kernel
theorem dX0_copy_88 : decode cX0_copy 88 = .ok (.aload_n 1, 1) := by decide +kernel
theorem dX0_copy_89 : decode cX0_copy 89 = .ok (.getfield 25, 3) := by decide +kernel
theorem dX0_copy_92 : decode cX0_copy 92 = .ok (.iload_n 2, 1) := by decide +kernel
theorem dX0_copy_93 : decode cX0_copy 93 = .ok (.iaload, 1) := by decide +kernel
theorem dX0_copy_94 : decode cX0_copy 94 = .ok (.iastore, 1) := by decide +kernel
theorem dX0_copy_95 : decode cX0_copy 95 = .ok (.aload_n 0, 1) := by decide +kernel
theorem dX0_copy_96 : decode cX0_copy 96 = .ok (.getfield 28, 3) := by decide +kernel
theorem dX0_copy_99 : decode cX0_copy 99 = .ok (.iload_n 2, 1) := by decide +kernel
theorem dX0_copy_100 : decode cX0_copy 100 = .ok (.aload_n 1, 1) := by decide +kernel
theorem dX0_copy_101 : decode cX0_copy 101 = .ok (.getfield 28, 3) := by decide +kernel
theorem dX0_copy_104 : decode cX0_copy 104 = .ok (.iload_n 2, 1) := by decide +kernel
theorem dX0_copy_105 : decode cX0_copy 105 = .ok (.iaload, 1) := by decide +kernel
theorem dX0_copy_106 : decode cX0_copy 106 = .ok (.iastore, 1) := by decide +kernel
theorem dX0_copy_107 : decode cX0_copy 107 = .ok (.iinc 2 1, 3) := by decide +kernel
theorem dX0_copy_110 : decode cX0_copy 110 = .ok (.goto (-69), 3) := by decide +kernel
theorem dX0_copy_113 : decode cX0_copy 113 = .ok (.iconst 0, 1) := by decide +kernel
theorem dX0_copy_114 : decode cX0_copy 114 = .ok (.istore_n 2, 1) := by decide +kernel
theorem dX0_copy_115 : decode cX0_copy 115 = .ok (.iload_n 2, 1) := by decide +kernel
theorem dX0_copy_116 : decode cX0_copy 116 = .ok (.iconst 4, 1) := by decide +kernel
theorem dX0_copy_117 : decode cX0_copy 117 = .ok (.if_icmp .ge 93, 3) := by decide +kernel
theorem dX0_copy_120 : decode cX0_copy 120 = .ok (.aload_n 0, 1) := by decide +kernel
theorem dX0_copy_121 : decode cX0_copy 121 = .ok (.getfield 31, 3) := by decide +kernel
theorem dX0_copy_124 : decode cX0_copy 124 = .ok (.iload_n 2, 1) := by decide +kernel
theorem dX0_copy_125 : decode cX0_copy 125 = .ok (.aload_n 1, 1) := by decide +kernel
theorem dX0_copy_126 : decode cX0_copy 126 = .ok (.getfield 31, 3) := by decide +kernel
theorem dX0_copy_129 : decode cX0_copy 129 = .ok (.iload_n 2, 1) := by decide +kernel
theorem dX0_copy_130 : decode cX0_copy 130 = .ok (.iaload, 1) := by decide +kernel
theorem dX0_copy_131 : decode cX0_copy 131 = .ok (.iastore, 1) := by decide +kernel
theorem dX0_copy_132 : decode cX0_copy 132 = .ok (.aload_n 0, 1) := by decide +kernel
theorem dX0_copy_133 : decode cX0_copy 133 = .ok (.getfield 34, 3) := by decide +kernel
theorem dX0_copy_136 : decode cX0_copy 136 = .ok (.iload_n 2, 1) := by decide +kernel
theorem dX0_copy_137 : decode cX0_copy 137 = .ok (.aload_n 1, 1) := by decide +kernel
theorem dX0_copy_138 : decode cX0_copy 138 = .ok (.getfield 34, 3) := by decide +kernel
theorem dX0_copy_141 : decode cX0_copy 141 = .ok (.iload_n 2, 1) := by decide +kernel
theorem dX0_copy_142 : decode cX0_copy 142 = .ok (.iaload, 1) := by decide +kernel
theorem dX0_copy_143 : decode cX0_copy 143 = .ok (.iastore, 1) := by decide +kernel
theorem dX0_copy_144 : decode cX0_copy 144 = .ok (.aload_n 0, 1) := by decide +kernel
theorem dX0_copy_145 : decode cX0_copy 145 = .ok (.getfield 37, 3) := by decide +kernel
theorem dX0_copy_148 : decode cX0_copy 148 = .ok (.iload_n 2, 1) := by decide +kernel
theorem dX0_copy_149 : decode cX0_copy 149 = .ok (.aload_n 1, 1) := by decide +kernel
theorem dX0_copy_150 : decode cX0_copy 150 = .ok (.getfield 37, 3) := by decide +kernel
theorem dX0_copy_153 : decode cX0_copy 153 = .ok (.iload_n 2, 1) := by decide +kernel
theorem dX0_copy_154 : decode cX0_copy 154 = .ok (.iaload, 1) := by decide +kernel
theorem dX0_copy_155 : decode cX0_copy 155 = .ok (.iastore, 1) := by decide +kernel
theorem dX0_copy_156 : decode cX0_copy 156 = .ok (.aload_n 0, 1) := by decide +kernel
theorem dX0_copy_157 : decode cX0_copy 157 = .ok (.getfield 40, 3) := by decide +kernel
theorem dX0_copy_160 : decode cX0_copy 160 = .ok (.iload_n 2, 1) := by decide +kernel
theorem dX0_copy_161 : decode cX0_copy 161 = .ok (.aload_n 1, 1) := by decide +kernel
theorem dX0_copy_162 : decode cX0_copy 162 = .ok (.getfield 40, 3) := by decide +kernel
theorem dX0_copy_165 : decode cX0_copy 165 = .ok (.iload_n 2, 1) := by decide +kernel
theorem dX0_copy_166 : decode cX0_copy 166 = .ok (.iaload, 1) := by decide +kernel
theorem dX0_copy_167 : decode cX0_copy 167 = .ok (.iastore, 1) := by decide +kernel
theorem dX0_copy_168 : decode cX0_copy 168 = .ok (.aload_n 0, 1) := by decide +kernel
theorem dX0_copy_169 : decode cX0_copy 169 = .ok (.getfield 43, 3) := by decide +kernel
theorem dX0_copy_172 : decode cX0_copy 172 = .ok (.iload_n 2, 1) := by decide +kernel
theorem dX0_copy_173 : decode cX0_copy 173 = .ok (.aload_n 1, 1) := by decide +kernel
theorem dX0_copy_174 : decode cX0_copy 174 = .ok (.getfield 43, 3) := by decide +kernel
theorem dX0_copy_177 : decode cX0_copy 177 = .ok (.iload_n 2, 1) := by decide +kernel
theorem dX0_copy_178 : decode cX0_copy 178 = .ok (.iaload, 1) := by decide +kernel
theorem dX0_copy_179 : decode cX0_copy 179 = .ok (.iastore, 1) := by decide +kernel
theorem dX0_copy_180 : decode cX0_copy 180 = .ok (.aload_n 0, 1) := by decide +kernel
theorem dX0_copy_181 : decode cX0_copy 181 = .ok (.getfield 46, 3) := by decide +kernel
theorem dX0_copy_184 : decode cX0_copy 184 = .ok (.iload_n 2, 1) := by decide +kernel
theorem dX0_copy_185 : decode cX0_copy 185 = .ok (.aload_n 1, 1) := by decide +kernel
theorem dX0_copy_186 : decode cX0_copy 186 = .ok (.getfield 46, 3) := by decide +kernel
theorem dX0_copy_189 : decode cX0_copy 189 = .ok (.iload_n 2, 1) := by decide +kernel
theorem dX0_copy_190 : decode cX0_copy 190 = .ok (.iaload, 1) := by decide +kernel
theorem dX0_copy_191 : decode cX0_copy 191 = .ok (.iastore, 1) := by decide +kernel
theorem dX0_copy_192 : decode cX0_copy 192 = .ok (.aload_n 0, 1) := by decide +kernel
theorem dX0_copy_193 : decode cX0_copy 193 = .ok (.getfield 49, 3) := by decide +kernel
theorem dX0_copy_196 : decode cX0_copy 196 = .ok (.iload_n 2, 1) := by decide +kernel
theorem dX0_copy_197 : decode cX0_copy 197 = .ok (.aload_n 1, 1) := by decide +kernel
theorem dX0_copy_198 : decode cX0_copy 198 = .ok (.getfield 49, 3) := by decide +kernel
theorem dX0_copy_201 : decode cX0_copy 201 = .ok (.iload_n 2, 1) := by decide +kernel
theorem dX0_copy_202 : decode cX0_copy 202 = .ok (.iaload, 1) := by decide +kernel
theorem dX0_copy_203 : decode cX0_copy 203 = .ok (.iastore, 1) := by decide +kernel
theorem dX0_copy_204 : decode cX0_copy 204 = .ok (.iinc 2 1, 3) := by decide +kernel
theorem dX0_copy_207 : decode cX0_copy 207 = .ok (.goto (-92), 3) := by decide +kernel
theorem dX0_copy_210 : decode cX0_copy 210 = .ok (.return_, 1) := by decide +kernel
set_option maxRecDepth 20000 in
theorem ggX0_goBy_X0_moveLighters : GoodIn wsX0_goBy wsX0_moveLighters := goodIn_r _ [7, 8, 9, 10, 11, 12, 13, 6, 14, 15, 16, 17, 18, 19, 20, 21, 22, 23, 24, 25, 26, 27, 28, 29, 30, 31, 32, 33, 34, 35, 36, 37, 38, 39, 40, 41, 42, 43, 44, 45, 46, 47, 48, 49, 50, 51, 52, 53, 54, 55, 56, 57, 58, 59, 60, 61, 62, 63, 64, 65, 110, 111, 112, 113, 114, 115, 116, 117, 118, 119, 120, 121, 122, 123, 124, 125, 126, 94, 95, 96, 97, 98, 99, 100, 101, 102, 103, 104, 105, 106, 107, 108, 109] (by decide +kernel) (by decide +kernel)
set_option maxRecDepth 20000 in
theorem gX0_goBy_X0_moveLighters : GoodIn wsX0_goBy (wsV RX0 68 RX0 yX0_moveLighters wsX0_moveLighters) := goodIn_app (goodIn_of _ (by decide +kernel)) ggX0_goBy_X0_moveLighters
set_option maxRecDepth 20000 in
theorem ggX0_goBy_X0_burnLamps : GoodIn wsX0_goBy wsX0_burnLamps := goodIn_r _ [69, 70, 27, 1, 57, 53, 54, 55, 56, 71, 72, 73, 6, 74, 17, 75, 76, 77, 78, 79, 58, 59, 110, 111, 112, 113, 114, 115, 116, 117, 118, 119, 120, 121, 122, 123, 124, 125, 126, 94, 95, 96, 97, 98, 99, 100, 101, 102, 103, 104, 105, 106, 107, 108, 109] (by decide +kernel) (by decide +kernel)
set_option maxRecDepth 20000 in
theorem gX0_goBy_X0_burnLamps : GoodIn wsX0_goBy (wsV RX0 72 RX0 yX0_burnLamps wsX0_burnLamps) := goodIn_app (goodIn_of _ (by decide +kernel)) ggX0_goBy_X0_burnLamps
set_option maxRecDepth 20000 in
theorem ggX0_goBy_X0_blow : GoodIn wsX0_goBy wsX0_blow := goodIn_r _ [83, 70, 27, 84, 85, 86, 87, 88, 35, 89, 45, 90, 46, 47, 91, 92, 55, 93, 76, 77, 78, 6, 79, 58, 59, 110, 111, 112, 113, 114, 115, 116, 117, 118, 119, 120, 121, 122, 123, 124, 125, 126, 94, 95, 96, 97, 98, 99, 100, 101, 102, 103, 104, 105, 106, 107, 108, 109] (by decide +kernel) (by decide +kernel)
set_option maxRecDepth 20000 in
theorem gX0_goBy_X0_blow : GoodIn wsX0_goBy (wsV RX0 81 RX0 yX0_blow wsX0_blow) := goodIn_app (goodIn_of _ (by decide +kernel)) ggX0_goBy_X0_blow
theorem dX0_goBy_0 : decode cX0_goBy 0 = .ok (.iconst 0, 1) := by decide +kernel
theorem dX0_goBy_1 : decode cX0_goBy 1 = .ok (.istore_n 3, 1) := by decide +kernel
theorem dX0_goBy_2 : decode cX0_goBy 2 = .ok (.iconst 0, 1) := by decide +kernel
theorem dX0_goBy_3 : decode cX0_goBy 3 = .ok (.istore 4, 2) := by decide +kernel
theorem dX0_goBy_5 : decode cX0_goBy 5 = .ok (.iload 4, 2) := by decide +kernel
theorem dX0_goBy_7 : decode cX0_goBy 7 = .ok (.iload_n 2, 1) := by decide +kernel
theorem dX0_goBy_8 : decode cX0_goBy 8 = .ok (.if_icmp .ge 69, 3) := by decide +kernel
theorem dX0_goBy_11 : decode cX0_goBy 11 = .ok (.aload_n 0, 1) := by decide +kernel
theorem dX0_goBy_12 : decode cX0_goBy 12 = .ok (.getfield 52, 3) := by decide +kernel
theorem dX0_goBy_15 : decode cX0_goBy 15 = .ok (.sipush 600, 3) := by decide +kernel
theorem dX0_goBy_18 : decode cX0_goBy 18 = .ok (.if_icmp .ge 59, 3) := by decide +kernel
theorem dX0_goBy_21 : decode cX0_goBy 21 = .ok (.iload_n 3, 1) := by decide +kernel
theorem dX0_goBy_22 : decode cX0_goBy 22 = .ok (.aload_n 0, 1) := by decide +kernel
theorem dX0_goBy_23 : decode cX0_goBy 23 = .ok (.aload_n 1, 1) := by decide +kernel
theorem dX0_goBy_24 : decode cX0_goBy 24 = .ok (.invokevirtual 68, 3) := by decide +kernel
theorem dX0_goBy_27 : decode cX0_goBy 27 = .ok (.iadd, 1) := by decide +kernel
theorem dX0_goBy_28 : decode cX0_goBy 28 = .ok (.istore_n 3, 1) := by decide +kernel
theorem dX0_goBy_29 : decode cX0_goBy 29 = .ok (.aload_n 0, 1) := by decide +kernel
theorem dX0_goBy_30 : decode cX0_goBy 30 = .ok (.aload_n 1, 1) := by decide +kernel
theorem dX0_goBy_31 : decode cX0_goBy 31 = .ok (.invokevirtual 72, 3) := by decide +kernel
theorem dX0_goBy_34 : decode cX0_goBy 34 = .ok (.aload_n 0, 1) := by decide +kernel
theorem dX0_goBy_35 : decode cX0_goBy 35 = .ok (.getfield 52, 3) := by decide +kernel
theorem dX0_goBy_38 : decode cX0_goBy 38 = .ok (.bipush 10, 2) := by decide +kernel
theorem dX0_goBy_40 : decode cX0_goBy 40 = .ok (.irem, 1) := by decide +kernel
theorem dX0_goBy_41 : decode cX0_goBy 41 = .ok (.ifCond .ne 20, 3) := by decide +kernel
theorem dX0_goBy_44 : decode cX0_goBy 44 = .ok (.aload_n 0, 1) := by decide +kernel
theorem dX0_goBy_45 : decode cX0_goBy 45 = .ok (.aload_n 1, 1) := by decide +kernel
theorem dX0_goBy_46 : decode cX0_goBy 46 = .ok (.aload_n 1, 1) := by decide +kernel
theorem dX0_goBy_47 : decode cX0_goBy 47 = .ok (.getfield 76, 3) := by decide +kernel
theorem dX0_goBy_50 : decode cX0_goBy 50 = .ok (.aload_n 0, 1) := by decide +kernel
theorem dX0_goBy_51 : decode cX0_goBy 51 = .ok (.getfield 52, 3) := by decide +kernel
theorem dX0_goBy_54 : decode cX0_goBy 54 = .ok (.bipush 60, 2) := by decide +kernel
theorem dX0_goBy_56 : decode cX0_goBy 56 = .ok (.idiv, 1) := by decide +kernel
theorem dX0_goBy_57 : decode cX0_goBy 57 = .ok (.iaload, 1) := by decide +kernel
theorem dX0_goBy_58 : decode cX0_goBy 58 = .ok (.invokevirtual 81, 3) := by decide +kernel
theorem dX0_goBy_61 : decode cX0_goBy 61 = .ok (.aload_n 0, 1) := by decide +kernel
theorem dX0_goBy_62 : decode cX0_goBy 62 = .ok (.dup, 1) := by decide +kernel
theorem dX0_goBy_63 : decode cX0_goBy 63 = .ok (.getfield 52, 3) := by decide +kernel
theorem dX0_goBy_66 : decode cX0_goBy 66 = .ok (.iconst 1, 1) := by decide +kernel
theorem dX0_goBy_67 : decode cX0_goBy 67 = .ok (.iadd, 1) := by decide +kernel
theorem dX0_goBy_68 : decode cX0_goBy 68 = .ok (.putfield 52, 3) := by decide +kernel
theorem dX0_goBy_71 : decode cX0_goBy 71 = .ok (.iinc 4 1, 3) := by decide +kernel
theorem dX0_goBy_74 : decode cX0_goBy 74 = .ok (.goto (-69), 3) := by decide +kernel
theorem dX0_goBy_77 : decode cX0_goBy 77 = .ok (.iload_n 3, 1) := by decide +kernel
theorem dX0_goBy_78 : decode cX0_goBy 78 = .ok (.ireturn, 1) := by decide +kernel
set_option maxRecDepth 20000 in
theorem ggX0_beginNext_X0_putOut : GoodIn wsX0_beginNext wsX0_putOut := goodIn_r _ [10, 4, 11, 12, 26, 27, 28, 29, 30, 31, 32, 33, 34, 35, 36, 37, 38, 39, 40, 41, 42, 43, 44, 45, 46, 47, 48, 49, 50, 51, 52, 53, 54, 55, 56, 57, 58] (by decide +kernel) (by decide +kernel)
set_option maxRecDepth 20000 in
theorem gX0_beginNext_X0_putOut : GoodIn wsX0_beginNext (wsV RX0 88 RX0 yX0_putOut wsX0_putOut) := goodIn_app (goodIn_of _ (by decide +kernel)) ggX0_beginNext_X0_putOut
set_option maxRecDepth 20000 in
theorem ggX0_beginNext_X0_sendHome : GoodIn wsX0_beginNext wsX0_sendHome := goodIn_r _ [16, 17, 18, 19, 20, 21, 22, 9, 23, 24, 25, 26, 27, 28, 29, 30, 31, 32, 33, 34, 35, 36, 37, 38, 39, 40, 41, 42, 43, 44, 45, 46, 47, 48, 49, 50, 51, 52, 53, 54, 55, 56, 57, 58] (by decide +kernel) (by decide +kernel)
set_option maxRecDepth 20000 in
theorem gX0_beginNext_X0_sendHome : GoodIn wsX0_beginNext (wsV RX0 94 RX0 yX0_sendHome wsX0_sendHome) := goodIn_app (goodIn_of _ (by decide +kernel)) ggX0_beginNext_X0_sendHome
theorem dX0_beginNext_0 : decode cX0_beginNext 0 = .ok (.aload_n 0, 1) := by decide +kernel
theorem dX0_beginNext_1 : decode cX0_beginNext 1 = .ok (.iconst 0, 1) := by decide +kernel
theorem dX0_beginNext_2 : decode cX0_beginNext 2 = .ok (.putfield 52, 3) := by decide +kernel
theorem dX0_beginNext_5 : decode cX0_beginNext 5 = .ok (.aload_n 0, 1) := by decide +kernel
theorem dX0_beginNext_6 : decode cX0_beginNext 6 = .ok (.dup, 1) := by decide +kernel
theorem dX0_beginNext_7 : decode cX0_beginNext 7 = .ok (.getfield 56, 3) := by decide +kernel
theorem dX0_beginNext_10 : decode cX0_beginNext 10 = .ok (.iconst 1, 1) := by decide +kernel
theorem dX0_beginNext_11 : decode cX0_beginNext 11 = .ok (.iadd, 1) := by decide +kernel
theorem dX0_beginNext_12 : decode cX0_beginNext 12 = .ok (.putfield 56, 3) := by decide +kernel
theorem dX0_beginNext_15 : decode cX0_beginNext 15 = .ok (.iconst 0, 1) := by decide +kernel
theorem dX0_beginNext_16 : decode cX0_beginNext 16 = .ok (.istore_n 2, 1) := by decide +kernel
theorem dX0_beginNext_17 : decode cX0_beginNext 17 = .ok (.iload_n 2, 1) := by decide +kernel
theorem dX0_beginNext_18 : decode cX0_beginNext 18 = .ok (.aload_n 1, 1) := by decide +kernel
theorem dX0_beginNext_19 : decode cX0_beginNext 19 = .ok (.getfield 85, 3) := by decide +kernel
theorem dX0_beginNext_22 : decode cX0_beginNext 22 = .ok (.if_icmp .ge 24, 3) := by decide +kernel
theorem dX0_beginNext_25 : decode cX0_beginNext 25 = .ok (.aload_n 0, 1) := by decide +kernel
theorem dX0_beginNext_26 : decode cX0_beginNext 26 = .ok (.getfield 21, 3) := by decide +kernel
theorem dX0_beginNext_29 : decode cX0_beginNext 29 = .ok (.iload_n 2, 1) := by decide +kernel
theorem dX0_beginNext_30 : decode cX0_beginNext 30 = .ok (.baload, 1) := by decide +kernel
theorem dX0_beginNext_31 : decode cX0_beginNext 31 = .ok (.ifCond .eq 9, 3) := by decide +kernel
theorem dX0_beginNext_34 : decode cX0_beginNext 34 = .ok (.aload_n 0, 1) := by decide +kernel
theorem dX0_beginNext_35 : decode cX0_beginNext 35 = .ok (.aload_n 1, 1) := by decide +kernel
theorem dX0_beginNext_36 : decode cX0_beginNext 36 = .ok (.iload_n 2, 1) := by decide +kernel
theorem dX0_beginNext_37 : decode cX0_beginNext 37 = .ok (.invokevirtual 88, 3) := by decide +kernel
theorem dX0_beginNext_40 : decode cX0_beginNext 40 = .ok (.iinc 2 1, 3) := by decide +kernel
theorem dX0_beginNext_43 : decode cX0_beginNext 43 = .ok (.goto (-26), 3) := by decide +kernel
theorem dX0_beginNext_46 : decode cX0_beginNext 46 = .ok (.iconst 0, 1) := by decide +kernel
theorem dX0_beginNext_47 : decode cX0_beginNext 47 = .ok (.istore_n 2, 1) := by decide +kernel
theorem dX0_beginNext_48 : decode cX0_beginNext 48 = .ok (.iload_n 2, 1) := by decide +kernel
theorem dX0_beginNext_49 : decode cX0_beginNext 49 = .ok (.aload_n 1, 1) := by decide +kernel
theorem dX0_beginNext_50 : decode cX0_beginNext 50 = .ok (.getfield 91, 3) := by decide +kernel
theorem dX0_beginNext_53 : decode cX0_beginNext 53 = .ok (.if_icmp .ge 15, 3) := by decide +kernel
theorem dX0_beginNext_56 : decode cX0_beginNext 56 = .ok (.aload_n 0, 1) := by decide +kernel
theorem dX0_beginNext_57 : decode cX0_beginNext 57 = .ok (.aload_n 1, 1) := by decide +kernel
theorem dX0_beginNext_58 : decode cX0_beginNext 58 = .ok (.iload_n 2, 1) := by decide +kernel
theorem dX0_beginNext_59 : decode cX0_beginNext 59 = .ok (.invokevirtual 94, 3) := by decide +kernel
theorem dX0_beginNext_62 : decode cX0_beginNext 62 = .ok (.iinc 2 1, 3) := by decide +kernel
theorem dX0_beginNext_65 : decode cX0_beginNext 65 = .ok (.goto (-17), 3) := by decide +kernel
theorem dX0_beginNext_68 : decode cX0_beginNext 68 = .ok (.return_, 1) := by decide +kernel
set_option maxRecDepth 20000 in
theorem ggX0_sendHome_X0_waitFromNow : GoodIn wsX0_sendHome wsX0_waitFromNow := goodIn_r _ [8, 9, 10, 11, 12, 13, 14, 15, 16, 17, 18, 19, 20, 21, 22, 23, 24, 25, 26] (by decide +kernel) (by decide +kernel)
set_option maxRecDepth 20000 in
theorem gX0_sendHome_X0_waitFromNow : GoodIn wsX0_sendHome (wsV RX0 100 RX0 yX0_waitFromNow wsX0_waitFromNow) := goodIn_app (goodIn_of _ (by decide +kernel)) ggX0_sendHome_X0_waitFromNow
theorem dX0_sendHome_0 : decode cX0_sendHome 0 = .ok (.aload_n 0, 1) := by decide +kernel
theorem dX0_sendHome_1 : decode cX0_sendHome 1 = .ok (.getfield 31, 3) := by decide +kernel
theorem dX0_sendHome_4 : decode cX0_sendHome 4 = .ok (.iload_n 2, 1) := by decide +kernel
theorem dX0_sendHome_5 : decode cX0_sendHome 5 = .ok (.aload_n 1, 1) := by decide +kernel
theorem dX0_sendHome_6 : decode cX0_sendHome 6 = .ok (.getfield 97, 3) := by decide +kernel
theorem dX0_sendHome_9 : decode cX0_sendHome 9 = .ok (.iload_n 2, 1) := by decide +kernel
theorem dX0_sendHome_10 : decode cX0_sendHome 10 = .ok (.iaload, 1) := by decide +kernel
theorem dX0_sendHome_11 : decode cX0_sendHome 11 = .ok (.iastore, 1) := by decide +kernel
theorem dX0_sendHome_12 : decode cX0_sendHome 12 = .ok (.aload_n 0, 1) := by decide +kernel
theorem dX0_sendHome_13 : decode cX0_sendHome 13 = .ok (.iload_n 2, 1) := by decide +kernel
theorem dX0_sendHome_14 : decode cX0_sendHome 14 = .ok (.invokevirtual 100, 3) := by decide +kernel
theorem dX0_sendHome_17 : decode cX0_sendHome 17 = .ok (.aload_n 0, 1) := by decide +kernel
theorem dX0_sendHome_18 : decode cX0_sendHome 18 = .ok (.getfield 46, 3) := by decide +kernel
theorem dX0_sendHome_21 : decode cX0_sendHome 21 = .ok (.iload_n 2, 1) := by decide +kernel
theorem dX0_sendHome_22 : decode cX0_sendHome 22 = .ok (.iconst (-1), 1) := by decide +kernel
theorem dX0_sendHome_23 : decode cX0_sendHome 23 = .ok (.iastore, 1) := by decide +kernel
theorem dX0_sendHome_24 : decode cX0_sendHome 24 = .ok (.return_, 1) := by decide +kernel
theorem dX0_whoGoesTo_0 : decode cX0_whoGoesTo 0 = .ok (.iconst 0, 1) := by decide +kernel
theorem dX0_whoGoesTo_1 : decode cX0_whoGoesTo 1 = .ok (.istore_n 3, 1) := by decide +kernel
theorem dX0_whoGoesTo_2 : decode cX0_whoGoesTo 2 = .ok (.iload_n 3, 1) := by decide +kernel
theorem dX0_whoGoesTo_3 : decode cX0_whoGoesTo 3 = .ok (.aload_n 1, 1) := by decide +kernel
theorem dX0_whoGoesTo_4 : decode cX0_whoGoesTo 4 = .ok (.getfield 91, 3) := by decide +kernel
theorem dX0_whoGoesTo_7 : decode cX0_whoGoesTo 7 = .ok (.if_icmp .ge 21, 3) := by decide +kernel
theorem dX0_whoGoesTo_10 : decode cX0_whoGoesTo 10 = .ok (.aload_n 0, 1) := by decide +kernel
theorem dX0_whoGoesTo_11 : decode cX0_whoGoesTo 11 = .ok (.getfield 37, 3) := by decide +kernel
theorem dX0_whoGoesTo_14 : decode cX0_whoGoesTo 14 = .ok (.iload_n 3, 1) := by decide +kernel
theorem dX0_whoGoesTo_15 : decode cX0_whoGoesTo 15 = .ok (.iaload, 1) := by decide +kernel
theorem dX0_whoGoesTo_16 : decode cX0_whoGoesTo 16 = .ok (.iload_n 2, 1) := by decide +kernel
theorem dX0_whoGoesTo_17 : decode cX0_whoGoesTo 17 = .ok (.if_icmp .ne 5, 3) := by decide +kernel
theorem dX0_whoGoesTo_20 : decode cX0_whoGoesTo 20 = .ok (.iload_n 3, 1) := by decide +kernel
theorem dX0_whoGoesTo_21 : decode cX0_whoGoesTo 21 = .ok (.ireturn, 1) := by decide +kernel
theorem dX0_whoGoesTo_22 : decode cX0_whoGoesTo 22 = .ok (.iinc 3 1, 3) := by decide +kernel
theorem dX0_whoGoesTo_25 : decode cX0_whoGoesTo 25 = .ok (.goto (-23), 3) := by decide +kernel
theorem dX0_whoGoesTo_28 : decode cX0_whoGoesTo 28 = .ok (.iconst (-1), 1) := by decide +kernel
theorem dX0_whoGoesTo_29 : decode cX0_whoGoesTo 29 = .ok (.ireturn, 1) := by decide +kernel
theorem dX0_isDark_0 : decode cX0_isDark 0 = .ok (.aload_n 0, 1) := by decide +kernel
theorem dX0_isDark_1 : decode cX0_isDark 1 = .ok (.getfield 9, 3) := by decide +kernel
theorem dX0_isDark_4 : decode cX0_isDark 4 = .ok (.iload_n 1, 1) := by decide +kernel
theorem dX0_isDark_5 : decode cX0_isDark 5 = .ok (.iaload, 1) := by decide +kernel
theorem dX0_isDark_6 : decode cX0_isDark 6 = .ok (.ifCond .ne 7, 3) := by decide +kernel
theorem dX0_isDark_9 : decode cX0_isDark 9 = .ok (.iconst 1, 1) := by decide +kernel
theorem dX0_isDark_10 : decode cX0_isDark 10 = .ok (.goto 4, 3) := by decide +kernel
theorem dX0_isDark_13 : decode cX0_isDark 13 = .ok (.iconst 0, 1) := by decide +kernel
theorem dX0_isDark_14 : decode cX0_isDark 14 = .ok (.ireturn, 1) := by decide +kernel
theorem dX0_burningLamps_0 : decode cX0_burningLamps 0 = .ok (.iconst 0, 1) := by decide +kernel
theorem dX0_burningLamps_1 : decode cX0_burningLamps 1 = .ok (.istore_n 2, 1) := by decide +kernel
theorem dX0_burningLamps_2 : decode cX0_burningLamps 2 = .ok (.iconst 0, 1) := by decide +kernel
theorem dX0_burningLamps_3 : decode cX0_burningLamps 3 = .ok (.istore_n 3, 1) := by decide +kernel
theorem dX0_burningLamps_4 : decode cX0_burningLamps 4 = .ok (.iload_n 3, 1) := by decide +kernel
theorem dX0_burningLamps_5 : decode cX0_burningLamps 5 = .ok (.aload_n 1, 1) := by decide +kernel
theorem dX0_burningLamps_6 : decode cX0_burningLamps 6 = .ok (.getfield 104, 3) := by decide +kernel
theorem dX0_burningLamps_9 : decode cX0_burningLamps 9 = .ok (.if_icmp .ge 18, 3) := by decide +kernel
theorem dX0_burningLamps_12 : decode cX0_burningLamps 12 = .ok (.iload_n 2, 1) := by decide +kernel
theorem dX0_burningLamps_13 : decode cX0_burningLamps 13 = .ok (.aload_n 0, 1) := by decide +kernel
theorem dX0_burningLamps_14 : decode cX0_burningLamps 14 = .ok (.getfield 9, 3) := by decide +kernel
theorem dX0_burningLamps_17 : decode cX0_burningLamps 17 = .ok (.iload_n 3, 1) := by decide +kernel
theorem dX0_burningLamps_18 : decode cX0_burningLamps 18 = .ok (.iaload, 1) := by decide +kernel
theorem dX0_burningLamps_19 : decode cX0_burningLamps 19 = .ok (.iadd, 1) := by decide +kernel
theorem dX0_burningLamps_20 : decode cX0_burningLamps 20 = .ok (.istore_n 2, 1) := by decide +kernel
theorem dX0_burningLamps_21 : decode cX0_burningLamps 21 = .ok (.iinc 3 1, 3) := by decide +kernel
theorem dX0_burningLamps_24 : decode cX0_burningLamps 24 = .ok (.goto (-20), 3) := by decide +kernel
theorem dX0_burningLamps_27 : decode cX0_burningLamps 27 = .ok (.iload_n 2, 1) := by decide +kernel
theorem dX0_burningLamps_28 : decode cX0_burningLamps 28 = .ok (.ireturn, 1) := by decide +kernel
set_option maxRecDepth 20000 in
theorem ggX0_darkStreets_X0_isDark : GoodIn wsX0_darkStreets wsX0_isDark := goodIn_r _ [6, 7, 25, 26, 27, 28, 29, 30, 31, 32, 33, 34, 35, 36, 37, 38, 39, 40] (by decide +kernel) (by decide +kernel)
set_option maxRecDepth 20000 in
theorem gX0_darkStreets_X0_isDark : GoodIn wsX0_darkStreets (wsV RX0 107 RX0 yX0_isDark wsX0_isDark) := goodIn_app (goodIn_of _ (by decide +kernel)) ggX0_darkStreets_X0_isDark
theorem dX0_darkStreets_0 : decode cX0_darkStreets 0 = .ok (.iconst 0, 1) := by decide +kernel
theorem dX0_darkStreets_1 : decode cX0_darkStreets 1 = .ok (.istore_n 2, 1) := by decide +kernel
theorem dX0_darkStreets_2 : decode cX0_darkStreets 2 = .ok (.iconst 0, 1) := by decide +kernel
theorem dX0_darkStreets_3 : decode cX0_darkStreets 3 = .ok (.istore_n 3, 1) := by decide +kernel
theorem dX0_darkStreets_4 : decode cX0_darkStreets 4 = .ok (.iload_n 3, 1) := by decide +kernel
theorem dX0_darkStreets_5 : decode cX0_darkStreets 5 = .ok (.aload_n 1, 1) := by decide +kernel
theorem dX0_darkStreets_6 : decode cX0_darkStreets 6 = .ok (.getfield 104, 3) := by decide +kernel
theorem dX0_darkStreets_9 : decode cX0_darkStreets 9 = .ok (.if_icmp .ge 20, 3) := by decide +kernel
theorem dX0_darkStreets_12 : decode cX0_darkStreets 12 = .ok (.aload_n 0, 1) := by decide +kernel
theorem dX0_darkStreets_13 : decode cX0_darkStreets 13 = .ok (.iload_n 3, 1) := by decide +kernel
theorem dX0_darkStreets_14 : decode cX0_darkStreets 14 = .ok (.invokevirtual 107, 3) := by decide +kernel
theorem dX0_darkStreets_17 : decode cX0_darkStreets 17 = .ok (.ifCond .eq 6, 3) := by decide +kernel
theorem dX0_darkStreets_20 : decode cX0_darkStreets 20 = .ok (.iinc 2 1, 3) := by decide +kernel
theorem dX0_darkStreets_23 : decode cX0_darkStreets 23 = .ok (.iinc 3 1, 3) := by decide +kernel
theorem dX0_darkStreets_26 : decode cX0_darkStreets 26 = .ok (.goto (-22), 3) := by decide +kernel
theorem dX0_darkStreets_29 : decode cX0_darkStreets 29 = .ok (.iload_n 2, 1) := by decide +kernel
theorem dX0_darkStreets_30 : decode cX0_darkStreets 30 = .ok (.ireturn, 1) := by decide +kernel
theorem dX0_oilOfLamps_0 : decode cX0_oilOfLamps 0 = .ok (.iconst 0, 1) := by decide +kernel
theorem dX0_oilOfLamps_1 : decode cX0_oilOfLamps 1 = .ok (.istore_n 2, 1) := by decide +kernel
theorem dX0_oilOfLamps_2 : decode cX0_oilOfLamps 2 = .ok (.iconst 0, 1) := by decide +kernel
theorem dX0_oilOfLamps_3 : decode cX0_oilOfLamps 3 = .ok (.istore_n 3, 1) := by decide +kernel
theorem dX0_oilOfLamps_4 : decode cX0_oilOfLamps 4 = .ok (.iload_n 3, 1) := by decide +kernel
theorem dX0_oilOfLamps_5 : decode cX0_oilOfLamps 5 = .ok (.aload_n 1, 1) := by decide +kernel
theorem dX0_oilOfLamps_6 : decode cX0_oilOfLamps 6 = .ok (.getfield 85, 3) := by decide +kernel
theorem dX0_oilOfLamps_9 : decode cX0_oilOfLamps 9 = .ok (.if_icmp .ge 18, 3) := by decide +kernel
theorem dX0_oilOfLamps_12 : decode cX0_oilOfLamps 12 = .ok (.iload_n 2, 1) := by decide +kernel
theorem dX0_oilOfLamps_13 : decode cX0_oilOfLamps 13 = .ok (.aload_n 0, 1) := by decide +kernel
theorem dX0_oilOfLamps_14 : decode cX0_oilOfLamps 14 = .ok (.getfield 15, 3) := by decide +kernel
theorem dX0_oilOfLamps_17 : decode cX0_oilOfLamps 17 = .ok (.iload_n 3, 1) := by decide +kernel
theorem dX0_oilOfLamps_18 : decode cX0_oilOfLamps 18 = .ok (.iaload, 1) := by decide +kernel
theorem dX0_oilOfLamps_19 : decode cX0_oilOfLamps 19 = .ok (.iadd, 1) := by decide +kernel
theorem dX0_oilOfLamps_20 : decode cX0_oilOfLamps 20 = .ok (.istore_n 2, 1) := by decide +kernel
theorem dX0_oilOfLamps_21 : decode cX0_oilOfLamps 21 = .ok (.iinc 3 1, 3) := by decide +kernel
theorem dX0_oilOfLamps_24 : decode cX0_oilOfLamps 24 = .ok (.goto (-20), 3) := by decide +kernel
theorem dX0_oilOfLamps_27 : decode cX0_oilOfLamps 27 = .ok (.iload_n 2, 1) := by decide +kernel
theorem dX0_oilOfLamps_28 : decode cX0_oilOfLamps 28 = .ok (.ireturn, 1) := by decide +kernel
set_option maxRecDepth 20000 in
theorem ggX0_moveLighters_X0_lookForLamp : GoodIn wsX0_moveLighters wsX0_lookForLamp := goodIn_r _ [8, 9, 10, 11, 2, 12, 13, 14, 3, 15, 16, 17, 18, 7, 19, 20, 21, 22, 23, 24, 25, 1, 26, 27, 28, 29, 30, 31, 32, 33, 34, 35, 36, 37, 38, 39, 40, 41, 42, 60, 61, 62, 63, 64, 65, 66, 67, 68, 69, 70, 71, 72, 73, 74, 75, 76, 77, 78, 79, 80, 81, 82, 83, 84, 85, 86, 87, 88, 89, 90, 91, 92] (by decide +kernel) (by decide +kernel)
set_option maxRecDepth 20000 in
theorem gX0_moveLighters_X0_lookForLamp : GoodIn wsX0_moveLighters (wsV RX0 111 RX0 yX0_lookForLamp wsX0_lookForLamp) := goodIn_app (goodIn_of _ (by decide +kernel)) ggX0_moveLighters_X0_lookForLamp
set_option maxRecDepth 20000 in
theorem ggX0_moveLighters_X0_tendLamp : GoodIn wsX0_moveLighters wsX0_tendLamp := goodIn_r _ [46, 2, 14, 13, 10, 11, 47, 48, 49, 50, 51, 21, 52, 53, 54, 55, 56, 57, 58, 7, 59, 3, 77, 78, 79, 80, 81, 82, 83, 84, 85, 86, 87, 88, 89, 90, 91, 92, 60, 61, 62, 63, 64, 65, 66, 67, 68, 69, 70, 71, 72, 73, 74, 75, 76] (by decide +kernel) (by decide +kernel)
set_option maxRecDepth 20000 in
theorem gX0_moveLighters_X0_tendLamp : GoodIn wsX0_moveLighters (wsV RX0 114 RX0 yX0_tendLamp wsX0_tendLamp) := goodIn_app (goodIn_of _ (by decide +kernel)) ggX0_moveLighters_X0_tendLamp
theorem dX0_moveLighters_0 : decode cX0_moveLighters 0 = .ok (.iconst 0, 1) := by decide +kernel
theorem dX0_moveLighters_1 : decode cX0_moveLighters 1 = .ok (.istore_n 2, 1) := by decide +kernel
theorem dX0_moveLighters_2 : decode cX0_moveLighters 2 = .ok (.iconst 0, 1) := by decide +kernel
theorem dX0_moveLighters_3 : decode cX0_moveLighters 3 = .ok (.istore_n 3, 1) := by decide +kernel
theorem dX0_moveLighters_4 : decode cX0_moveLighters 4 = .ok (.iload_n 3, 1) := by decide +kernel
theorem dX0_moveLighters_5 : decode cX0_moveLighters 5 = .ok (.aload_n 1, 1) := by decide +kernel
theorem dX0_moveLighters_6 : decode cX0_moveLighters 6 = .ok (.getfield 91, 3) := by decide +kernel
theorem dX0_moveLighters_9 : decode cX0_moveLighters 9 = .ok (.if_icmp .ge 66, 3) := by decide +kernel
theorem dX0_moveLighters_12 : decode cX0_moveLighters 12 = .ok (.aload_n 0, 1) := by decide +kernel
theorem dX0_moveLighters_13 : decode cX0_moveLighters 13 = .ok (.getfield 37, 3) := by decide +kernel
theorem dX0_moveLighters_16 : decode cX0_moveLighters 16 = .ok (.iload_n 3, 1) := by decide +kernel
theorem dX0_moveLighters_17 : decode cX0_moveLighters 17 = .ok (.iaload, 1) := by decide +kernel
theorem dX0_moveLighters_18 : decode cX0_moveLighters 18 = .ok (.iconst (-1), 1) := by decide +kernel
theorem dX0_moveLighters_19 : decode cX0_moveLighters 19 = .ok (.if_icmp .ne 9, 3) := by decide +kernel
theorem dX0_moveLighters_22 : decode cX0_moveLighters 22 = .ok (.aload_n 0, 1) := by decide +kernel
theorem dX0_moveLighters_23 : decode cX0_moveLighters 23 = .ok (.aload_n 1, 1) := by decide +kernel
theorem dX0_moveLighters_24 : decode cX0_moveLighters 24 = .ok (.iload_n 3, 1) := by decide +kernel
theorem dX0_moveLighters_25 : decode cX0_moveLighters 25 = .ok (.invokevirtual 111, 3) := by decide +kernel
theorem dX0_moveLighters_28 : decode cX0_moveLighters 28 = .ok (.aload_n 0, 1) := by decide +kernel
theorem dX0_moveLighters_29 : decode cX0_moveLighters 29 = .ok (.getfield 37, 3) := by decide +kernel
theorem dX0_moveLighters_32 : decode cX0_moveLighters 32 = .ok (.iload_n 3, 1) := by decide +kernel
theorem dX0_moveLighters_33 : decode cX0_moveLighters 33 = .ok (.iaload, 1) := by decide +kernel
theorem dX0_moveLighters_34 : decode cX0_moveLighters 34 = .ok (.iconst (-1), 1) := by decide +kernel
theorem dX0_moveLighters_35 : decode cX0_moveLighters 35 = .ok (.if_icmp .eq 34, 3) := by decide +kernel
theorem dX0_moveLighters_38 : decode cX0_moveLighters 38 = .ok (.aload_n 0, 1) := by decide +kernel
theorem dX0_moveLighters_39 : decode cX0_moveLighters 39 = .ok (.getfield 43, 3) := by decide +kernel
theorem dX0_moveLighters_42 : decode cX0_moveLighters 42 = .ok (.iload_n 3, 1) := by decide +kernel
theorem dX0_moveLighters_43 : decode cX0_moveLighters 43 = .ok (.dup2, 1) := by decide +kernel
theorem dX0_moveLighters_44 : decode cX0_moveLighters 44 = .ok (.iaload, 1) := by decide +kernel
theorem dX0_moveLighters_45 : decode cX0_moveLighters 45 = .ok (.iconst 1, 1) := by decide +kernel
theorem dX0_moveLighters_46 : decode cX0_moveLighters 46 = .ok (.isub, 1) := by decide +kernel
theorem dX0_moveLighters_47 : decode cX0_moveLighters 47 = .ok (.iastore, 1) := by decide +kernel
theorem dX0_moveLighters_48 : decode cX0_moveLighters 48 = .ok (.aload_n 0, 1) := by decide +kernel
theorem dX0_moveLighters_49 : decode cX0_moveLighters 49 = .ok (.getfield 43, 3) := by decide +kernel
theorem dX0_moveLighters_52 : decode cX0_moveLighters 52 = .ok (.iload_n 3, 1) := by decide +kernel
theorem dX0_moveLighters_53 : decode cX0_moveLighters 53 = .ok (.iaload, 1) := by decide +kernel
theorem dX0_moveLighters_54 : decode cX0_moveLighters 54 = .ok (.ifCond .ne 15, 3) := by decide +kernel
theorem dX0_moveLighters_57 : decode cX0_moveLighters 57 = .ok (.aload_n 0, 1) := by decide +kernel
theorem dX0_moveLighters_58 : decode cX0_moveLighters 58 = .ok (.aload_n 1, 1) := by decide +kernel
theorem dX0_moveLighters_59 : decode cX0_moveLighters 59 = .ok (.iload_n 3, 1) := by decide +kernel
theorem dX0_moveLighters_60 : decode cX0_moveLighters 60 = .ok (.invokevirtual 114, 3) := by decide +kernel
theorem dX0_moveLighters_63 : decode cX0_moveLighters 63 = .ok (.ifCond .eq 6, 3) := by decide +kernel
theorem dX0_moveLighters_66 : decode cX0_moveLighters 66 = .ok (.iinc 2 1, 3) := by decide +kernel
theorem dX0_moveLighters_69 : decode cX0_moveLighters 69 = .ok (.iinc 3 1, 3) := by decide +kernel
theorem dX0_moveLighters_72 : decode cX0_moveLighters 72 = .ok (.goto (-68), 3) := by decide +kernel
theorem dX0_moveLighters_75 : decode cX0_moveLighters 75 = .ok (.iload_n 2, 1) := by decide +kernel
theorem dX0_moveLighters_76 : decode cX0_moveLighters 76 = .ok (.ireturn, 1) := by decide +kernel
set_option maxRecDepth 20000 in
theorem ggX0_lookForLamp_X0_placeOfNextLamp : GoodIn wsX0_lookForLamp wsX0_placeOfNextLamp := goodIn_r _ [14, 15, 5, 1, 16, 7, 17, 18, 19, 13, 20, 21, 4, 22, 23, 24, 25, 26, 27, 28, 29, 30, 31, 32, 33, 34, 35, 36, 37, 39, 40, 41, 42, 43, 44, 45, 46, 47, 48, 49, 50, 51, 52, 53, 54, 55, 56, 57, 58, 59, 60, 61, 62, 63, 64, 65, 66, 67, 68, 69, 70, 71] (by decide +kernel) (by decide +kernel)
set_option maxRecDepth 20000 in
theorem gX0_lookForLamp_X0_placeOfNextLamp : GoodIn wsX0_lookForLamp (wsV RX0 118 RX0 yX0_placeOfNextLamp wsX0_placeOfNextLamp) := goodIn_app (goodIn_of _ (by decide +kernel)) ggX0_lookForLamp_X0_placeOfNextLamp
set_option maxRecDepth 20000 in
theorem ggX0_lookForLamp_X1_nearerEnd : GoodIn wsX0_lookForLamp wsX1_nearerEnd := goodIn_r _ [34, 35, 36, 37, 29, 39, 40, 41, 42, 43, 44, 45, 46, 47, 48, 49, 50, 51, 52, 53, 54, 55] (by decide +kernel) (by decide +kernel)
set_option maxRecDepth 20000 in
theorem gX0_lookForLamp_X1_nearerEnd : GoodIn wsX0_lookForLamp (wsV RX0 126 RX1 yX1_nearerEnd wsX1_nearerEnd) := goodIn_app (goodIn_of _ (by decide +kernel)) ggX0_lookForLamp_X1_nearerEnd
theorem dX0_lookForLamp_0 : decode cX0_lookForLamp 0 = .ok (.aload_n 0, 1) := by decide +kernel
theorem dX0_lookForLamp_1 : decode cX0_lookForLamp 1 = .ok (.aload_n 1, 1) := by decide +kernel
theorem dX0_lookForLamp_2 : decode cX0_lookForLamp 2 = .ok (.iload_n 2, 1) := by decide +kernel
theorem dX0_lookForLamp_3 : decode cX0_lookForLamp 3 = .ok (.invokevirtual 118, 3) := by decide +kernel
theorem dX0_lookForLamp_6 : decode cX0_lookForLamp 6 = .ok (.istore_n 3, 1) := by decide +kernel
theorem dX0_lookForLamp_7 : decode cX0_lookForLamp 7 = .ok (.iload_n 3, 1) := by decide +kernel
theorem dX0_lookForLamp_8 : decode cX0_lookForLamp 8 = .ok (.iconst (-1), 1) := by decide +kernel
theorem dX0_lookForLamp_9 : decode cX0_lookForLamp 9 = .ok (.if_icmp .ne 4, 3) := by decide +kernel
theorem dX0_lookForLamp_12 : decode cX0_lookForLamp 12 = .ok (.return_, 1) := by decide +kernel
theorem dX0_lookForLamp_13 : decode cX0_lookForLamp 13 = .ok (.aload_n 1, 1) := by decide +kernel
theorem dX0_lookForLamp_14 : decode cX0_lookForLamp 14 = .ok (.getfield 122, 3) := by decide +kernel
theorem dX0_lookForLamp_17 : decode cX0_lookForLamp 17 = .ok (.iload_n 2, 1) := by decide +kernel
theorem dX0_lookForLamp_18 : decode cX0_lookForLamp 18 = .ok (.aaload, 1) := by decide +kernel
theorem dX0_lookForLamp_19 : decode cX0_lookForLamp 19 = .ok (.iload_n 3, 1) := by decide +kernel
theorem dX0_lookForLamp_20 : decode cX0_lookForLamp 20 = .ok (.iaload, 1) := by decide +kernel
theorem dX0_lookForLamp_21 : decode cX0_lookForLamp 21 = .ok (.istore 4, 2) := by decide +kernel
theorem dX0_lookForLamp_23 : decode cX0_lookForLamp 23 = .ok (.aload_n 0, 1) := by decide +kernel
theorem dX0_lookForLamp_24 : decode cX0_lookForLamp 24 = .ok (.getfield 34, 3) := by decide +kernel
theorem dX0_lookForLamp_27 : decode cX0_lookForLamp 27 = .ok (.iload_n 2, 1) := by decide +kernel
theorem dX0_lookForLamp_28 : decode cX0_lookForLamp 28 = .ok (.iaload, 1) := by decide +kernel
theorem dX0_lookForLamp_29 : decode cX0_lookForLamp 29 = .ok (.ifCond .gt 13, 3) := by decide +kernel
theorem dX0_lookForLamp_32 : decode cX0_lookForLamp 32 = .ok (.aload_n 0, 1) := by decide +kernel
theorem dX0_lookForLamp_33 : decode cX0_lookForLamp 33 = .ok (.getfield 15, 3) := by decide +kernel
theorem dX0_lookForLamp_36 : decode cX0_lookForLamp 36 = .ok (.iload 4, 2) := by decide +kernel
theorem dX0_lookForLamp_38 : decode cX0_lookForLamp 38 = .ok (.iaload, 1) := by decide +kernel
theorem dX0_lookForLamp_39 : decode cX0_lookForLamp 39 = .ok (.ifCond .le 62, 3) := by decide +kernel
theorem dX0_lookForLamp_42 : decode cX0_lookForLamp 42 = .ok (.aload_n 0, 1) := by decide +kernel
theorem dX0_lookForLamp_43 : decode cX0_lookForLamp 43 = .ok (.getfield 37, 3) := by decide +kernel
theorem dX0_lookForLamp_46 : decode cX0_lookForLamp 46 = .ok (.iload_n 2, 1) := by decide +kernel
theorem dX0_lookForLamp_47 : decode cX0_lookForLamp 47 = .ok (.iload 4, 2) := by decide +kernel
theorem dX0_lookForLamp_49 : decode cX0_lookForLamp 49 = .ok (.iastore, 1) := by decide +kernel
theorem dX0_lookForLamp_50 : decode cX0_lookForLamp 50 = .ok (.aload_n 0, 1) := by decide +kernel
theorem dX0_lookForLamp_51 : decode cX0_lookForLamp 51 = .ok (.getfield 46, 3) := by decide +kernel
theorem dX0_lookForLamp_54 : decode cX0_lookForLamp 54 = .ok (.iload_n 2, 1) := by decide +kernel
theorem dX0_lookForLamp_55 : decode cX0_lookForLamp 55 = .ok (.iload_n 3, 1) := by decide +kernel
theorem dX0_lookForLamp_56 : decode cX0_lookForLamp 56 = .ok (.iastore, 1) := by decide +kernel
theorem dX0_lookForLamp_57 : decode cX0_lookForLamp 57 = .ok (.aload_n 0, 1) := by decide +kernel
theorem dX0_lookForLamp_58 : decode cX0_lookForLamp 58 = .ok (.getfield 40, 3) := by decide +kernel
theorem dX0_lookForLamp_61 : decode cX0_lookForLamp 61 = .ok (.iload_n 2, 1) := by decide +kernel
theorem dX0_lookForLamp_62 : decode cX0_lookForLamp 62 = .ok (.aload_n 1, 1) := by decide +kernel
theorem dX0_lookForLamp_63 : decode cX0_lookForLamp 63 = .ok (.aload_n 0, 1) := by decide +kernel
theorem dX0_lookForLamp_64 : decode cX0_lookForLamp 64 = .ok (.getfield 31, 3) := by decide +kernel
theorem dX0_lookForLamp_67 : decode cX0_lookForLamp 67 = .ok (.iload_n 2, 1) := by decide +kernel
theorem dX0_lookForLamp_68 : decode cX0_lookForLamp 68 = .ok (.iaload, 1) := by decide +kernel
theorem dX0_lookForLamp_69 : decode cX0_lookForLamp 69 = .ok (.iload 4, 2) := by decide +kernel
theorem dX0_lookForLamp_71 : decode cX0_lookForLamp 71 = .ok (.invokevirtual 126, 3) := by decide +kernel
theorem dX0_lookForLamp_74 : decode cX0_lookForLamp 74 = .ok (.iastore, 1) := by decide +kernel
theorem dX0_lookForLamp_75 : decode cX0_lookForLamp 75 = .ok (.aload_n 0, 1) := by decide +kernel
theorem dX0_lookForLamp_76 : decode cX0_lookForLamp 76 = .ok (.getfield 43, 3) := by decide +kernel
theorem dX0_lookForLamp_79 : decode cX0_lookForLamp 79 = .ok (.iload_n 2, 1) := by decide +kernel
theorem dX0_lookForLamp_80 : decode cX0_lookForLamp 80 = .ok (.aload_n 1, 1) := by decide +kernel
theorem dX0_lookForLamp_81 : decode cX0_lookForLamp 81 = .ok (.getfield 130, 3) := by decide +kernel
theorem dX0_lookForLamp_84 : decode cX0_lookForLamp 84 = .ok (.aload_n 0, 1) := by decide +kernel
theorem dX0_lookForLamp_85 : decode cX0_lookForLamp 85 = .ok (.getfield 31, 3) := by decide +kernel
theorem dX0_lookForLamp_88 : decode cX0_lookForLamp 88 = .ok (.iload_n 2, 1) := by decide +kernel
theorem dX0_lookForLamp_89 : decode cX0_lookForLamp 89 = .ok (.iaload, 1) := by decide +kernel
theorem dX0_lookForLamp_90 : decode cX0_lookForLamp 90 = .ok (.aaload, 1) := by decide +kernel
theorem dX0_lookForLamp_91 : decode cX0_lookForLamp 91 = .ok (.aload_n 0, 1) := by decide +kernel
theorem dX0_lookForLamp_92 : decode cX0_lookForLamp 92 = .ok (.getfield 40, 3) := by decide +kernel
theorem dX0_lookForLamp_95 : decode cX0_lookForLamp 95 = .ok (.iload_n 2, 1) := by decide +kernel
theorem dX0_lookForLamp_96 : decode cX0_lookForLamp 96 = .ok (.iaload, 1) := by decide +kernel
theorem dX0_lookForLamp_97 : decode cX0_lookForLamp 97 = .ok (.iaload, 1) := by decide +kernel
theorem dX0_lookForLamp_98 : decode cX0_lookForLamp 98 = .ok (.iconst 3, 1) := by decide +kernel
theorem dX0_lookForLamp_99 : decode cX0_lookForLamp 99 = .ok (.iadd, 1) := by decide +kernel
theorem dX0_lookForLamp_100 : decode cX0_lookForLamp 100 = .ok (.iastore, 1) := by decide +kernel
theorem dX0_lookForLamp_101 : decode cX0_lookForLamp 101 = .ok (.return_, 1) := by decide +kernel
set_option maxRecDepth 20000 in
theorem ggX0_placeOfNextLamp_X0_whoGoesTo : GoodIn wsX0_placeOfNextLamp wsX0_whoGoesTo := goodIn_r _ [10, 11, 12, 29, 30, 31, 32, 33, 34, 35, 36, 37, 38, 39, 40, 41, 42, 43, 44, 45, 46, 47, 48, 49, 50, 51, 52, 53, 54, 55, 56, 57, 58, 59, 60, 61] (by decide +kernel) (by decide +kernel)
set_option maxRecDepth 20000 in
theorem gX0_placeOfNextLamp_X0_whoGoesTo : GoodIn wsX0_placeOfNextLamp (wsV RX0 136 RX0 yX0_whoGoesTo wsX0_whoGoesTo) := goodIn_app (goodIn_of _ (by decide +kernel)) ggX0_placeOfNextLamp_X0_whoGoesTo
set_option maxRecDepth 20000 in
theorem ggX0_placeOfNextLamp_X1_canReach : GoodIn wsX0_placeOfNextLamp wsX1_canReach := goodIn_r _ [17, 18, 19, 20, 21, 22, 23, 24, 16, 25, 26, 27, 28, 29, 30, 31, 32, 33, 34, 35, 36, 37, 38, 39, 40, 41, 42, 43, 44, 45] (by decide +kernel) (by decide +kernel)
set_option maxRecDepth 20000 in
theorem gX0_placeOfNextLamp_X1_canReach : GoodIn wsX0_placeOfNextLamp (wsV RX0 139 RX1 yX1_canReach wsX1_canReach) := goodIn_app (goodIn_of _ (by decide +kernel)) ggX0_placeOfNextLamp_X1_canReach
theorem dX0_placeOfNextLamp_0 : decode cX0_placeOfNextLamp 0 = .ok (.aload_n 1, 1) := by decide +kernel
theorem dX0_placeOfNextLamp_1 : decode cX0_placeOfNextLamp 1 = .ok (.getfield 133, 3) := by decide +kernel
theorem dX0_placeOfNextLamp_4 : decode cX0_placeOfNextLamp 4 = .ok (.iload_n 2, 1) := by decide +kernel
theorem dX0_placeOfNextLamp_5 : decode cX0_placeOfNextLamp 5 = .ok (.iaload, 1) := by decide +kernel
theorem dX0_placeOfNextLamp_6 : decode cX0_placeOfNextLamp 6 = .ok (.istore_n 3, 1) := by decide +kernel
theorem dX0_placeOfNextLamp_7 : decode cX0_placeOfNextLamp 7 = .ok (.aload_n 0, 1) := by decide +kernel
theorem dX0_placeOfNextLamp_8 : decode cX0_placeOfNextLamp 8 = .ok (.getfield 46, 3) := by decide +kernel
theorem dX0_placeOfNextLamp_11 : decode cX0_placeOfNextLamp 11 = .ok (.iload_n 2, 1) := by decide +kernel
theorem dX0_placeOfNextLamp_12 : decode cX0_placeOfNextLamp 12 = .ok (.iaload, 1) := by decide +kernel
theorem dX0_placeOfNextLamp_13 : decode cX0_placeOfNextLamp 13 = .ok (.istore 4, 2) := by decide +kernel
theorem dX0_placeOfNextLamp_15 : decode cX0_placeOfNextLamp 15 = .ok (.iconst 0, 1) := by decide +kernel
theorem dX0_placeOfNextLamp_16 : decode cX0_placeOfNextLamp 16 = .ok (.istore 5, 2) := by decide +kernel
theorem dX0_placeOfNextLamp_18 : decode cX0_placeOfNextLamp 18 = .ok (.iload 5, 2) := by decide +kernel
theorem dX0_placeOfNextLamp_20 : decode cX0_placeOfNextLamp 20 = .ok (.iload_n 3, 1) := by decide +kernel
theorem dX0_placeOfNextLamp_21 : decode cX0_placeOfNextLamp 21 = .ok (.if_icmp .ge 78, 3) := by decide +kernel
theorem dX0_placeOfNextLamp_24 : decode cX0_placeOfNextLamp 24 = .ok (.iload 4, 2) := by decide +kernel
theorem dX0_placeOfNextLamp_26 : decode cX0_placeOfNextLamp 26 = .ok (.iconst 1, 1) := by decide +kernel
theorem dX0_placeOfNextLamp_27 : decode cX0_placeOfNextLamp 27 = .ok (.iadd, 1) := by decide +kernel
theorem dX0_placeOfNextLamp_28 : decode cX0_placeOfNextLamp 28 = .ok (.iload_n 3, 1) := by decide +kernel
theorem dX0_placeOfNextLamp_29 : decode cX0_placeOfNextLamp 29 = .ok (.if_icmp .ge 10, 3) := by decide +kernel
theorem dX0_placeOfNextLamp_32 : decode cX0_placeOfNextLamp 32 = .ok (.iload 4, 2) := by decide +kernel
theorem dX0_placeOfNextLamp_34 : decode cX0_placeOfNextLamp 34 = .ok (.iconst 1, 1) := by decide +kernel
theorem dX0_placeOfNextLamp_35 : decode cX0_placeOfNextLamp 35 = .ok (.iadd, 1) := by decide +kernel
theorem dX0_placeOfNextLamp_36 : decode cX0_placeOfNextLamp 36 = .ok (.goto 4, 3) := by decide +kernel
theorem dX0_placeOfNextLamp_39 : decode cX0_placeOfNextLamp 39 = .ok (.iconst 0, 1) := by decide +kernel
theorem dX0_placeOfNextLamp_40 : decode cX0_placeOfNextLamp 40 = .ok (.istore 4, 2) := by decide +kernel
theorem dX0_placeOfNextLamp_42 : decode cX0_placeOfNextLamp 42 = .ok (.aload_n 1, 1) := by decide +kernel
theorem dX0_placeOfNextLamp_43 : decode cX0_placeOfNextLamp 43 = .ok (.getfield 122, 3) := by decide +kernel
theorem dX0_placeOfNextLamp_46 : decode cX0_placeOfNextLamp 46 = .ok (.iload_n 2, 1) := by decide +kernel
theorem dX0_placeOfNextLamp_47 : decode cX0_placeOfNextLamp 47 = .ok (.aaload, 1) := by decide +kernel
theorem dX0_placeOfNextLamp_48 : decode cX0_placeOfNextLamp 48 = .ok (.iload 4, 2) := by decide +kernel
theorem dX0_placeOfNextLamp_50 : decode cX0_placeOfNextLamp 50 = .ok (.iaload, 1) := by decide +kernel
theorem dX0_placeOfNextLamp_51 : decode cX0_placeOfNextLamp 51 = .ok (.istore 6, 2) := by decide +kernel
theorem dX0_placeOfNextLamp_53 : decode cX0_placeOfNextLamp 53 = .ok (.aload_n 0, 1) := by decide +kernel
theorem dX0_placeOfNextLamp_54 : decode cX0_placeOfNextLamp 54 = .ok (.getfield 21, 3) := by decide +kernel
theorem dX0_placeOfNextLamp_57 : decode cX0_placeOfNextLamp 57 = .ok (.iload 6, 2) := by decide +kernel
theorem dX0_placeOfNextLamp_59 : decode cX0_placeOfNextLamp 59 = .ok (.baload, 1) := by decide +kernel
theorem dX0_placeOfNextLamp_60 : decode cX0_placeOfNextLamp 60 = .ok (.ifCond .ne 33, 3) := by decide +kernel
theorem dX0_placeOfNextLamp_63 : decode cX0_placeOfNextLamp 63 = .ok (.aload_n 0, 1) := by decide +kernel
theorem dX0_placeOfNextLamp_64 : decode cX0_placeOfNextLamp 64 = .ok (.aload_n 1, 1) := by decide +kernel
theorem dX0_placeOfNextLamp_65 : decode cX0_placeOfNextLamp 65 = .ok (.iload 6, 2) := by decide +kernel
theorem dX0_placeOfNextLamp_67 : decode cX0_placeOfNextLamp 67 = .ok (.invokevirtual 136, 3) := by decide +kernel
theorem dX0_placeOfNextLamp_70 : decode cX0_placeOfNextLamp 70 = .ok (.iconst (-1), 1) := by decide +kernel
theorem dX0_placeOfNextLamp_71 : decode cX0_placeOfNextLamp 71 = .ok (.if_icmp .ne 22, 3) := by decide +kernel
theorem dX0_placeOfNextLamp_74 : decode cX0_placeOfNextLamp 74 = .ok (.aload_n 1, 1) := by decide +kernel
theorem dX0_placeOfNextLamp_75 : decode cX0_placeOfNextLamp 75 = .ok (.iload_n 2, 1) := by decide +kernel
theorem dX0_placeOfNextLamp_76 : decode cX0_placeOfNextLamp 76 = .ok (.aload_n 0, 1) := by decide +kernel
theorem dX0_placeOfNextLamp_77 : decode cX0_placeOfNextLamp 77 = .ok (.getfield 31, 3) := by decide +kernel
theorem dX0_placeOfNextLamp_80 : decode cX0_placeOfNextLamp 80 = .ok (.iload_n 2, 1) := by decide +kernel
theorem dX0_placeOfNextLamp_81 : decode cX0_placeOfNextLamp 81 = .ok (.iaload, 1) := by decide +kernel
theorem dX0_placeOfNextLamp_82 : decode cX0_placeOfNextLamp 82 = .ok (.iload 6, 2) := by decide +kernel
theorem dX0_placeOfNextLamp_84 : decode cX0_placeOfNextLamp 84 = .ok (.invokevirtual 139, 3) := by decide +kernel
theorem dX0_placeOfNextLamp_87 : decode cX0_placeOfNextLamp 87 = .ok (.ifCond .eq 6, 3) := by decide +kernel
theorem dX0_placeOfNextLamp_90 : decode cX0_placeOfNextLamp 90 = .ok (.iload 4, 2) := by decide +kernel
theorem dX0_placeOfNextLamp_92 : decode cX0_placeOfNextLamp 92 = .ok (.ireturn, 1) := by decide +kernel
theorem dX0_placeOfNextLamp_93 : decode cX0_placeOfNextLamp 93 = .ok (.iinc 5 1, 3) := by decide +kernel
theorem dX0_placeOfNextLamp_96 : decode cX0_placeOfNextLamp 96 = .ok (.goto (-78), 3) := by decide +kernel
theorem dX0_placeOfNextLamp_99 : decode cX0_placeOfNextLamp 99 = .ok (.iconst (-1), 1) := by decide +kernel
theorem dX0_placeOfNextLamp_100 : decode cX0_placeOfNextLamp 100 = .ok (.ireturn, 1) := by decide +kernel
set_option maxRecDepth 20000 in
theorem ggX0_tendLamp_X0_waitFromNow : GoodIn wsX0_tendLamp wsX0_waitFromNow := goodIn_r _ [20, 1, 21, 22, 23, 24, 25, 26, 27, 28, 29, 30, 31, 32, 33, 34, 35, 36, 37] (by decide +kernel) (by decide +kernel)
set_option maxRecDepth 20000 in
theorem gX0_tendLamp_X0_waitFromNow : GoodIn wsX0_tendLamp (wsV RX0 100 RX0 yX0_waitFromNow wsX0_waitFromNow) := goodIn_app (goodIn_of _ (by decide +kernel)) ggX0_tendLamp_X0_waitFromNow
theorem dX0_tendLamp_0 : decode cX0_tendLamp 0 = .ok (.aload_n 0, 1) := by decide +kernel
theorem dX0_tendLamp_1 : decode cX0_tendLamp 1 = .ok (.getfield 37, 3) := by decide +kernel
theorem dX0_tendLamp_4 : decode cX0_tendLamp 4 = .ok (.iload_n 2, 1) := by decide +kernel
theorem dX0_tendLamp_5 : decode cX0_tendLamp 5 = .ok (.iaload, 1) := by decide +kernel
theorem dX0_tendLamp_6 : decode cX0_tendLamp 6 = .ok (.istore_n 3, 1) := by decide +kernel
theorem dX0_tendLamp_7 : decode cX0_tendLamp 7 = .ok (.aload_n 0, 1) := by decide +kernel
theorem dX0_tendLamp_8 : decode cX0_tendLamp 8 = .ok (.getfield 31, 3) := by decide +kernel
theorem dX0_tendLamp_11 : decode cX0_tendLamp 11 = .ok (.iload_n 2, 1) := by decide +kernel
theorem dX0_tendLamp_12 : decode cX0_tendLamp 12 = .ok (.aload_n 0, 1) := by decide +kernel
theorem dX0_tendLamp_13 : decode cX0_tendLamp 13 = .ok (.getfield 40, 3) := by decide +kernel
theorem dX0_tendLamp_16 : decode cX0_tendLamp 16 = .ok (.iload_n 2, 1) := by decide +kernel
theorem dX0_tendLamp_17 : decode cX0_tendLamp 17 = .ok (.iaload, 1) := by decide +kernel
theorem dX0_tendLamp_18 : decode cX0_tendLamp 18 = .ok (.iastore, 1) := by decide +kernel
theorem dX0_tendLamp_19 : decode cX0_tendLamp 19 = .ok (.aload_n 0, 1) := by decide +kernel
theorem dX0_tendLamp_20 : decode cX0_tendLamp 20 = .ok (.iload_n 2, 1) := by decide +kernel
theorem dX0_tendLamp_21 : decode cX0_tendLamp 21 = .ok (.invokevirtual 100, 3) := by decide +kernel
theorem dX0_tendLamp_24 : decode cX0_tendLamp 24 = .ok (.aload_n 0, 1) := by decide +kernel
theorem dX0_tendLamp_25 : decode cX0_tendLamp 25 = .ok (.getfield 34, 3) := by decide +kernel
theorem dX0_tendLamp_28 : decode cX0_tendLamp 28 = .ok (.iload_n 2, 1) := by decide +kernel
theorem dX0_tendLamp_29 : decode cX0_tendLamp 29 = .ok (.iaload, 1) := by decide +kernel
theorem dX0_tendLamp_30 : decode cX0_tendLamp 30 = .ok (.sipush 300, 3) := by decide +kernel
theorem dX0_tendLamp_33 : decode cX0_tendLamp 33 = .ok (.aload_n 0, 1) := by decide +kernel
theorem dX0_tendLamp_34 : decode cX0_tendLamp 34 = .ok (.getfield 15, 3) := by decide +kernel
theorem dX0_tendLamp_37 : decode cX0_tendLamp 37 = .ok (.iload_n 3, 1) := by decide +kernel
theorem dX0_tendLamp_38 : decode cX0_tendLamp 38 = .ok (.iaload, 1) := by decide +kernel
theorem dX0_tendLamp_39 : decode cX0_tendLamp 39 = .ok (.isub, 1) := by decide +kernel
theorem dX0_tendLamp_40 : decode cX0_tendLamp 40 = .ok (.invokestatic 143, 3) := by decide +kernel
theorem dX0_tendLamp_43 : decode cX0_tendLamp 43 = .ok (.istore 4, 2) := by decide +kernel
theorem dX0_tendLamp_45 : decode cX0_tendLamp 45 = .ok (.aload_n 0, 1) := by decide +kernel
theorem dX0_tendLamp_46 : decode cX0_tendLamp 46 = .ok (.getfield 34, 3) := by decide +kernel
theorem dX0_tendLamp_49 : decode cX0_tendLamp 49 = .ok (.iload_n 2, 1) := by decide +kernel
theorem dX0_tendLamp_50 : decode cX0_tendLamp 50 = .ok (.dup2, 1) := by decide +kernel
theorem dX0_tendLamp_51 : decode cX0_tendLamp 51 = .ok (.iaload, 1) := by decide +kernel
theorem dX0_tendLamp_52 : decode cX0_tendLamp 52 = .ok (.iload 4, 2) := by decide +kernel
theorem dX0_tendLamp_54 : decode cX0_tendLamp 54 = .ok (.isub, 1) := by decide +kernel
theorem dX0_tendLamp_55 : decode cX0_tendLamp 55 = .ok (.iastore, 1) := by decide +kernel
theorem dX0_tendLamp_56 : decode cX0_tendLamp 56 = .ok (.aload_n 0, 1) := by decide +kernel
theorem dX0_tendLamp_57 : decode cX0_tendLamp 57 = .ok (.getfield 15, 3) := by decide +kernel
theorem dX0_tendLamp_60 : decode cX0_tendLamp 60 = .ok (.iload_n 3, 1) := by decide +kernel
theorem dX0_tendLamp_61 : decode cX0_tendLamp 61 = .ok (.dup2, 1) := by decide +kernel
theorem dX0_tendLamp_62 : decode cX0_tendLamp 62 = .ok (.iaload, 1) := by decide +kernel
theorem dX0_tendLamp_63 : decode cX0_tendLamp 63 = .ok (.iload 4, 2) := by decide +kernel
theorem dX0_tendLamp_65 : decode cX0_tendLamp 65 = .ok (.iadd, 1) := by decide +kernel
theorem dX0_tendLamp_66 : decode cX0_tendLamp 66 = .ok (.iastore, 1) := by decide +kernel
theorem dX0_tendLamp_67 : decode cX0_tendLamp 67 = .ok (.aload_n 0, 1) := by decide +kernel
theorem dX0_tendLamp_68 : decode cX0_tendLamp 68 = .ok (.getfield 18, 3) := by decide +kernel
theorem dX0_tendLamp_71 : decode cX0_tendLamp 71 = .ok (.iload_n 3, 1) := by decide +kernel
theorem dX0_tendLamp_72 : decode cX0_tendLamp 72 = .ok (.iconst 0, 1) := by decide +kernel
theorem dX0_tendLamp_73 : decode cX0_tendLamp 73 = .ok (.iastore, 1) := by decide +kernel
theorem dX0_tendLamp_74 : decode cX0_tendLamp 74 = .ok (.aload_n 0, 1) := by decide +kernel
theorem dX0_tendLamp_75 : decode cX0_tendLamp 75 = .ok (.getfield 15, 3) := by decide +kernel
theorem dX0_tendLamp_78 : decode cX0_tendLamp 78 = .ok (.iload_n 3, 1) := by decide +kernel
theorem dX0_tendLamp_79 : decode cX0_tendLamp 79 = .ok (.iaload, 1) := by decide +kernel
theorem dX0_tendLamp_80 : decode cX0_tendLamp 80 = .ok (.ifCond .ne 5, 3) := by decide +kernel
theorem dX0_tendLamp_83 : decode cX0_tendLamp 83 = .ok (.iconst 0, 1) := by decide +kernel
theorem dX0_tendLamp_84 : decode cX0_tendLamp 84 = .ok (.ireturn, 1) := by decide +kernel
theorem dX0_tendLamp_85 : decode cX0_tendLamp 85 = .ok (.aload_n 0, 1) := by decide +kernel
theorem dX0_tendLamp_86 : decode cX0_tendLamp 86 = .ok (.getfield 21, 3) := by decide +kernel
theorem dX0_tendLamp_89 : decode cX0_tendLamp 89 = .ok (.iload_n 3, 1) := by decide +kernel
theorem dX0_tendLamp_90 : decode cX0_tendLamp 90 = .ok (.iconst 1, 1) := by decide +kernel
theorem dX0_tendLamp_91 : decode cX0_tendLamp 91 = .ok (.bastore, 1) := by decide +kernel
theorem dX0_tendLamp_92 : decode cX0_tendLamp 92 = .ok (.aload_n 0, 1) := by decide +kernel
theorem dX0_tendLamp_93 : decode cX0_tendLamp 93 = .ok (.getfield 9, 3) := by decide +kernel
theorem dX0_tendLamp_96 : decode cX0_tendLamp 96 = .ok (.aload_n 1, 1) := by decide +kernel
theorem dX0_tendLamp_97 : decode cX0_tendLamp 97 = .ok (.getfield 148, 3) := by decide +kernel
theorem dX0_tendLamp_100 : decode cX0_tendLamp 100 = .ok (.iload_n 3, 1) := by decide +kernel
theorem dX0_tendLamp_101 : decode cX0_tendLamp 101 = .ok (.iaload, 1) := by decide +kernel
theorem dX0_tendLamp_102 : decode cX0_tendLamp 102 = .ok (.dup2, 1) := by decide +kernel
theorem dX0_tendLamp_103 : decode cX0_tendLamp 103 = .ok (.iaload, 1) := by decide +kernel
theorem dX0_tendLamp_104 : decode cX0_tendLamp 104 = .ok (.iconst 1, 1) := by decide +kernel
theorem dX0_tendLamp_105 : decode cX0_tendLamp 105 = .ok (.iadd, 1) := by decide +kernel
theorem dX0_tendLamp_106 : decode cX0_tendLamp 106 = .ok (.iastore, 1) := by decide +kernel
theorem dX0_tendLamp_107 : decode cX0_tendLamp 107 = .ok (.aload_n 0, 1) := by decide +kernel
theorem dX0_tendLamp_108 : decode cX0_tendLamp 108 = .ok (.getfield 25, 3) := by decide +kernel
theorem dX0_tendLamp_111 : decode cX0_tendLamp 111 = .ok (.iload_n 3, 1) := by decide +kernel
theorem dX0_tendLamp_112 : decode cX0_tendLamp 112 = .ok (.dup2, 1) := by decide +kernel
theorem dX0_tendLamp_113 : decode cX0_tendLamp 113 = .ok (.iaload, 1) := by decide +kernel
theorem dX0_tendLamp_114 : decode cX0_tendLamp 114 = .ok (.iconst 1, 1) := by decide +kernel
theorem dX0_tendLamp_115 : decode cX0_tendLamp 115 = .ok (.iadd, 1) := by decide +kernel
theorem dX0_tendLamp_116 : decode cX0_tendLamp 116 = .ok (.iastore, 1) := by decide +kernel
theorem dX0_tendLamp_117 : decode cX0_tendLamp 117 = .ok (.aload_n 0, 1) := by decide +kernel
theorem dX0_tendLamp_118 : decode cX0_tendLamp 118 = .ok (.getfield 49, 3) := by decide +kernel
theorem dX0_tendLamp_121 : decode cX0_tendLamp 121 = .ok (.iload_n 2, 1) := by decide +kernel
theorem dX0_tendLamp_122 : decode cX0_tendLamp 122 = .ok (.dup2, 1) := by decide +kernel
theorem dX0_tendLamp_123 : decode cX0_tendLamp 123 = .ok (.iaload, 1) := by decide +kernel
theorem dX0_tendLamp_124 : decode cX0_tendLamp 124 = .ok (.iconst 1, 1) := by decide +kernel
theorem dX0_tendLamp_125 : decode cX0_tendLamp 125 = .ok (.iadd, 1) := by decide +kernel
theorem dX0_tendLamp_126 : decode cX0_tendLamp 126 = .ok (.iastore, 1) := by decide +kernel
theorem dX0_tendLamp_127 : decode cX0_tendLamp 127 = .ok (.iconst 1, 1) := by decide +kernel
theorem dX0_tendLamp_128 : decode cX0_tendLamp 128 = .ok (.ireturn, 1) := by decide +kernel
theorem dX0_waitFromNow_0 : decode cX0_waitFromNow 0 = .ok (.aload_n 0, 1) := by decide +kernel
theorem dX0_waitFromNow_1 : decode cX0_waitFromNow 1 = .ok (.getfield 37, 3) := by decide +kernel
theorem dX0_waitFromNow_4 : decode cX0_waitFromNow 4 = .ok (.iload_n 1, 1) := by decide +kernel
theorem dX0_waitFromNow_5 : decode cX0_waitFromNow 5 = .ok (.iconst (-1), 1) := by decide +kernel
theorem dX0_waitFromNow_6 : decode cX0_waitFromNow 6 = .ok (.iastore, 1) := by decide +kernel
theorem dX0_waitFromNow_7 : decode cX0_waitFromNow 7 = .ok (.aload_n 0, 1) := by decide +kernel
theorem dX0_waitFromNow_8 : decode cX0_waitFromNow 8 = .ok (.getfield 43, 3) := by decide +kernel
theorem dX0_waitFromNow_11 : decode cX0_waitFromNow 11 = .ok (.iload_n 1, 1) := by decide +kernel
theorem dX0_waitFromNow_12 : decode cX0_waitFromNow 12 = .ok (.iconst 0, 1) := by decide +kernel
theorem dX0_waitFromNow_13 : decode cX0_waitFromNow 13 = .ok (.iastore, 1) := by decide +kernel
theorem dX0_waitFromNow_14 : decode cX0_waitFromNow 14 = .ok (.return_, 1) := by decide +kernel
set_option maxRecDepth 20000 in
theorem ggX0_burnLamps_X0_useOil : GoodIn wsX0_burnLamps wsX0_useOil := goodIn_r _ [13, 14, 4, 5, 6, 7, 8, 15, 16, 17, 18, 12, 19, 2, 20, 21, 39, 40, 41, 42, 43, 44, 45, 46, 47, 48, 49, 50, 51, 52, 53, 54, 22, 23, 24, 25, 26, 27, 28, 29, 30, 31, 32, 33, 34, 35, 36, 37, 38] (by decide +kernel) (by decide +kernel)
set_option maxRecDepth 20000 in
theorem gX0_burnLamps_X0_useOil : GoodIn wsX0_burnLamps (wsV RX0 151 RX0 yX0_useOil wsX0_useOil) := goodIn_app (goodIn_of _ (by decide +kernel)) ggX0_burnLamps_X0_useOil
theorem dX0_burnLamps_0 : decode cX0_burnLamps 0 = .ok (.iconst 0, 1) := by decide +kernel
theorem dX0_burnLamps_1 : decode cX0_burnLamps 1 = .ok (.istore_n 2, 1) := by decide +kernel
theorem dX0_burnLamps_2 : decode cX0_burnLamps 2 = .ok (.iload_n 2, 1) := by decide +kernel
theorem dX0_burnLamps_3 : decode cX0_burnLamps 3 = .ok (.aload_n 1, 1) := by decide +kernel
theorem dX0_burnLamps_4 : decode cX0_burnLamps 4 = .ok (.getfield 85, 3) := by decide +kernel
theorem dX0_burnLamps_7 : decode cX0_burnLamps 7 = .ok (.if_icmp .ge 62, 3) := by decide +kernel
theorem dX0_burnLamps_10 : decode cX0_burnLamps 10 = .ok (.aload_n 0, 1) := by decide +kernel
theorem dX0_burnLamps_11 : decode cX0_burnLamps 11 = .ok (.getfield 21, 3) := by decide +kernel
theorem dX0_burnLamps_14 : decode cX0_burnLamps 14 = .ok (.iload_n 2, 1) := by decide +kernel
theorem dX0_burnLamps_15 : decode cX0_burnLamps 15 = .ok (.baload, 1) := by decide +kernel
theorem dX0_burnLamps_16 : decode cX0_burnLamps 16 = .ok (.ifCond .eq 9, 3) := by decide +kernel
theorem dX0_burnLamps_19 : decode cX0_burnLamps 19 = .ok (.aload_n 0, 1) := by decide +kernel
theorem dX0_burnLamps_20 : decode cX0_burnLamps 20 = .ok (.aload_n 1, 1) := by decide +kernel
theorem dX0_burnLamps_21 : decode cX0_burnLamps 21 = .ok (.iload_n 2, 1) := by decide +kernel
theorem dX0_burnLamps_22 : decode cX0_burnLamps 22 = .ok (.invokevirtual 151, 3) := by decide +kernel
theorem dX0_burnLamps_25 : decode cX0_burnLamps 25 = .ok (.aload_n 0, 1) := by decide +kernel
theorem dX0_burnLamps_26 : decode cX0_burnLamps 26 = .ok (.getfield 21, 3) := by decide +kernel
theorem dX0_burnLamps_29 : decode cX0_burnLamps 29 = .ok (.iload_n 2, 1) := by decide +kernel
theorem dX0_burnLamps_30 : decode cX0_burnLamps 30 = .ok (.baload, 1) := by decide +kernel
theorem dX0_burnLamps_31 : decode cX0_burnLamps 31 = .ok (.ifCond .eq 32, 3) := by decide +kernel
theorem dX0_burnLamps_34 : decode cX0_burnLamps 34 = .ok (.aload_n 0, 1) := by decide +kernel
theorem dX0_burnLamps_35 : decode cX0_burnLamps 35 = .ok (.getfield 52, 3) := by decide +kernel
theorem dX0_burnLamps_38 : decode cX0_burnLamps 38 = .ok (.bipush 30, 2) := by decide +kernel
theorem dX0_burnLamps_40 : decode cX0_burnLamps 40 = .ok (.irem, 1) := by decide +kernel
theorem dX0_burnLamps_41 : decode cX0_burnLamps 41 = .ok (.ifCond .ne 22, 3) := by decide +kernel
theorem dX0_burnLamps_44 : decode cX0_burnLamps 44 = .ok (.aload_n 0, 1) := by decide +kernel
theorem dX0_burnLamps_45 : decode cX0_burnLamps 45 = .ok (.getfield 18, 3) := by decide +kernel
theorem dX0_burnLamps_48 : decode cX0_burnLamps 48 = .ok (.iload_n 2, 1) := by decide +kernel
theorem dX0_burnLamps_49 : decode cX0_burnLamps 49 = .ok (.bipush 9, 2) := by decide +kernel
theorem dX0_burnLamps_51 : decode cX0_burnLamps 51 = .ok (.aload_n 0, 1) := by decide +kernel
theorem dX0_burnLamps_52 : decode cX0_burnLamps 52 = .ok (.getfield 18, 3) := by decide +kernel
theorem dX0_burnLamps_55 : decode cX0_burnLamps 55 = .ok (.iload_n 2, 1) := by decide +kernel
theorem dX0_burnLamps_56 : decode cX0_burnLamps 56 = .ok (.iaload, 1) := by decide +kernel
theorem dX0_burnLamps_57 : decode cX0_burnLamps 57 = .ok (.iconst 1, 1) := by decide +kernel
theorem dX0_burnLamps_58 : decode cX0_burnLamps 58 = .ok (.iadd, 1) := by decide +kernel
theorem dX0_burnLamps_59 : decode cX0_burnLamps 59 = .ok (.invokestatic 143, 3) := by decide +kernel
theorem dX0_burnLamps_62 : decode cX0_burnLamps 62 = .ok (.iastore, 1) := by decide +kernel
theorem dX0_burnLamps_63 : decode cX0_burnLamps 63 = .ok (.iinc 2 1, 3) := by decide +kernel
theorem dX0_burnLamps_66 : decode cX0_burnLamps 66 = .ok (.goto (-64), 3) := by decide +kernel
theorem dX0_burnLamps_69 : decode cX0_burnLamps 69 = .ok (.return_, 1) := by decide +kernel
set_option maxRecDepth 20000 in
theorem ggX0_useOil_X0_putOut : GoodIn wsX0_useOil wsX0_putOut := goodIn_r _ [12, 13, 14, 15, 16, 17, 18, 19, 20, 21, 22, 23, 24, 25, 26, 27, 28, 29, 30, 31, 32, 33, 34, 35, 36, 37, 38, 39, 40, 41, 42, 43, 44, 45, 46, 47, 48] (by decide +kernel) (by decide +kernel)
set_option maxRecDepth 20000 in
theorem gX0_useOil_X0_putOut : GoodIn wsX0_useOil (wsV RX0 88 RX0 yX0_putOut wsX0_putOut) := goodIn_app (goodIn_of _ (by decide +kernel)) ggX0_useOil_X0_putOut
theorem dX0_useOil_0 : decode cX0_useOil 0 = .ok (.aload_n 0, 1) := by decide +kernel
theorem dX0_useOil_1 : decode cX0_useOil 1 = .ok (.getfield 15, 3) := by decide +kernel
theorem dX0_useOil_4 : decode cX0_useOil 4 = .ok (.iload_n 2, 1) := by decide +kernel
theorem dX0_useOil_5 : decode cX0_useOil 5 = .ok (.iaload, 1) := by decide +kernel
theorem dX0_useOil_6 : decode cX0_useOil 6 = .ok (.aload_n 0, 1) := by decide +kernel
theorem dX0_useOil_7 : decode cX0_useOil 7 = .ok (.getfield 18, 3) := by decide +kernel
theorem dX0_useOil_10 : decode cX0_useOil 10 = .ok (.iload_n 2, 1) := by decide +kernel
theorem dX0_useOil_11 : decode cX0_useOil 11 = .ok (.iaload, 1) := by decide +kernel
theorem dX0_useOil_12 : decode cX0_useOil 12 = .ok (.iconst 5, 1) := by decide +kernel
theorem dX0_useOil_13 : decode cX0_useOil 13 = .ok (.if_icmp .lt 7, 3) := by decide +kernel
theorem dX0_useOil_16 : decode cX0_useOil 16 = .ok (.iconst 2, 1) := by decide +kernel
theorem dX0_useOil_17 : decode cX0_useOil 17 = .ok (.goto 4, 3) := by decide +kernel
theorem dX0_useOil_20 : decode cX0_useOil 20 = .ok (.iconst 1, 1) := by decide +kernel
theorem dX0_useOil_21 : decode cX0_useOil 21 = .ok (.invokestatic 143, 3) := by decide +kernel
theorem dX0_useOil_24 : decode cX0_useOil 24 = .ok (.istore_n 3, 1) := by decide +kernel
theorem dX0_useOil_25 : decode cX0_useOil 25 = .ok (.aload_n 0, 1) := by decide +kernel
theorem dX0_useOil_26 : decode cX0_useOil 26 = .ok (.getfield 15, 3) := by decide +kernel
theorem dX0_useOil_29 : decode cX0_useOil 29 = .ok (.iload_n 2, 1) := by decide +kernel
theorem dX0_useOil_30 : decode cX0_useOil 30 = .ok (.dup2, 1) := by decide +kernel
theorem dX0_useOil_31 : decode cX0_useOil 31 = .ok (.iaload, 1) := by decide +kernel
theorem dX0_useOil_32 : decode cX0_useOil 32 = .ok (.iload_n 3, 1) := by decide +kernel
theorem dX0_useOil_33 : decode cX0_useOil 33 = .ok (.isub, 1) := by decide +kernel
theorem dX0_useOil_34 : decode cX0_useOil 34 = .ok (.iastore, 1) := by decide +kernel
theorem dX0_useOil_35 : decode cX0_useOil 35 = .ok (.aload_n 0, 1) := by decide +kernel
theorem dX0_useOil_36 : decode cX0_useOil 36 = .ok (.dup, 1) := by decide +kernel
theorem dX0_useOil_37 : decode cX0_useOil 37 = .ok (.getfield 59, 3) := by decide +kernel
theorem dX0_useOil_40 : decode cX0_useOil 40 = .ok (.iload_n 3, 1) := by decide +kernel
theorem dX0_useOil_41 : decode cX0_useOil 41 = .ok (.iadd, 1) := by decide +kernel
theorem dX0_useOil_42 : decode cX0_useOil 42 = .ok (.putfield 59, 3) := by decide +kernel
theorem dX0_useOil_45 : decode cX0_useOil 45 = .ok (.aload_n 0, 1) := by decide +kernel
theorem dX0_useOil_46 : decode cX0_useOil 46 = .ok (.getfield 15, 3) := by decide +kernel
theorem dX0_useOil_49 : decode cX0_useOil 49 = .ok (.iload_n 2, 1) := by decide +kernel
theorem dX0_useOil_50 : decode cX0_useOil 50 = .ok (.iaload, 1) := by decide +kernel
theorem dX0_useOil_51 : decode cX0_useOil 51 = .ok (.ifCond .ne 9, 3) := by decide +kernel
theorem dX0_useOil_54 : decode cX0_useOil 54 = .ok (.aload_n 0, 1) := by decide +kernel
theorem dX0_useOil_55 : decode cX0_useOil 55 = .ok (.aload_n 1, 1) := by decide +kernel
theorem dX0_useOil_56 : decode cX0_useOil 56 = .ok (.iload_n 2, 1) := by decide +kernel
theorem dX0_useOil_57 : decode cX0_useOil 57 = .ok (.invokevirtual 88, 3) := by decide +kernel
theorem dX0_useOil_60 : decode cX0_useOil 60 = .ok (.return_, 1) := by decide +kernel
set_option maxRecDepth 20000 in
theorem ggX0_blow_X1_windAtLamp : GoodIn wsX0_blow wsX1_windAtLamp := goodIn_r _ [9, 10, 11, 12, 13, 14, 15, 16, 17, 25, 26, 27, 28, 29, 30, 31, 32, 33, 34, 35, 36, 37, 38, 39, 40, 41] (by decide +kernel) (by decide +kernel)
set_option maxRecDepth 20000 in
theorem gX0_blow_X1_windAtLamp : GoodIn wsX0_blow (wsV RX0 154 RX1 yX1_windAtLamp wsX1_windAtLamp) := goodIn_app (goodIn_of _ (by decide +kernel)) ggX0_blow_X1_windAtLamp
set_option maxRecDepth 20000 in
theorem ggX0_blow_X0_putOut : GoodIn wsX0_blow wsX0_putOut := goodIn_r _ [22, 2, 23, 24, 42, 43, 44, 45, 46, 47, 48, 49, 50, 51, 52, 53, 54, 55, 56, 57, 25, 26, 27, 28, 29, 30, 31, 32, 33, 34, 35, 36, 37, 38, 39, 40, 41] (by decide +kernel) (by decide +kernel)
set_option maxRecDepth 20000 in
theorem gX0_blow_X0_putOut : GoodIn wsX0_blow (wsV RX0 88 RX0 yX0_putOut wsX0_putOut) := goodIn_app (goodIn_of _ (by decide +kernel)) ggX0_blow_X0_putOut
theorem dX0_blow_0 : decode cX0_blow 0 = .ok (.iconst 0, 1) := by decide +kernel
theorem dX0_blow_1 : decode cX0_blow 1 = .ok (.istore_n 3, 1) := by decide +kernel
theorem dX0_blow_2 : decode cX0_blow 2 = .ok (.iload_n 3, 1) := by decide +kernel
theorem dX0_blow_3 : decode cX0_blow 3 = .ok (.aload_n 1, 1) := by decide +kernel
theorem dX0_blow_4 : decode cX0_blow 4 = .ok (.getfield 85, 3) := by decide +kernel
theorem dX0_blow_7 : decode cX0_blow 7 = .ok (.if_icmp .ge 51, 3) := by decide +kernel
theorem dX0_blow_10 : decode cX0_blow 10 = .ok (.aload_n 0, 1) := by decide +kernel
theorem dX0_blow_11 : decode cX0_blow 11 = .ok (.getfield 21, 3) := by decide +kernel
theorem dX0_blow_14 : decode cX0_blow 14 = .ok (.iload_n 3, 1) := by decide +kernel
theorem dX0_blow_15 : decode cX0_blow 15 = .ok (.baload, 1) := by decide +kernel
theorem dX0_blow_16 : decode cX0_blow 16 = .ok (.ifCond .eq 36, 3) := by decide +kernel
theorem dX0_blow_19 : decode cX0_blow 19 = .ok (.aload_n 1, 1) := by decide +kernel
theorem dX0_blow_20 : decode cX0_blow 20 = .ok (.iload_n 3, 1) := by decide +kernel
theorem dX0_blow_21 : decode cX0_blow 21 = .ok (.iload_n 2, 1) := by decide +kernel
theorem dX0_blow_22 : decode cX0_blow 22 = .ok (.invokevirtual 154, 3) := by decide +kernel
theorem dX0_blow_25 : decode cX0_blow 25 = .ok (.aload_n 1, 1) := by decide +kernel
theorem dX0_blow_26 : decode cX0_blow 26 = .ok (.getfield 157, 3) := by decide +kernel
theorem dX0_blow_29 : decode cX0_blow 29 = .ok (.iload_n 3, 1) := by decide +kernel
theorem dX0_blow_30 : decode cX0_blow 30 = .ok (.iaload, 1) := by decide +kernel
theorem dX0_blow_31 : decode cX0_blow 31 = .ok (.iconst 4, 1) := by decide +kernel
theorem dX0_blow_32 : decode cX0_blow 32 = .ok (.iadd, 1) := by decide +kernel
theorem dX0_blow_33 : decode cX0_blow 33 = .ok (.if_icmp .le 19, 3) := by decide +kernel
theorem dX0_blow_36 : decode cX0_blow 36 = .ok (.aload_n 0, 1) := by decide +kernel
theorem dX0_blow_37 : decode cX0_blow 37 = .ok (.aload_n 1, 1) := by decide +kernel
theorem dX0_blow_38 : decode cX0_blow 38 = .ok (.iload_n 3, 1) := by decide +kernel
theorem dX0_blow_39 : decode cX0_blow 39 = .ok (.invokevirtual 88, 3) := by decide +kernel
theorem dX0_blow_42 : decode cX0_blow 42 = .ok (.aload_n 0, 1) := by decide +kernel
theorem dX0_blow_43 : decode cX0_blow 43 = .ok (.getfield 28, 3) := by decide +kernel
theorem dX0_blow_46 : decode cX0_blow 46 = .ok (.iload_n 3, 1) := by decide +kernel
theorem dX0_blow_47 : decode cX0_blow 47 = .ok (.dup2, 1) := by decide +kernel
theorem dX0_blow_48 : decode cX0_blow 48 = .ok (.iaload, 1) := by decide +kernel
theorem dX0_blow_49 : decode cX0_blow 49 = .ok (.iconst 1, 1) := by decide +kernel
theorem dX0_blow_50 : decode cX0_blow 50 = .ok (.iadd, 1) := by decide +kernel
theorem dX0_blow_51 : decode cX0_blow 51 = .ok (.iastore, 1) := by decide +kernel
theorem dX0_blow_52 : decode cX0_blow 52 = .ok (.iinc 3 1, 3) := by decide +kernel
theorem dX0_blow_55 : decode cX0_blow 55 = .ok (.goto (-53), 3) := by decide +kernel
theorem dX0_blow_58 : decode cX0_blow 58 = .ok (.return_, 1) := by decide +kernel
theorem dX0_putOut_0 : decode cX0_putOut 0 = .ok (.aload_n 0, 1) := by decide +kernel
theorem dX0_putOut_1 : decode cX0_putOut 1 = .ok (.getfield 21, 3) := by decide +kernel
theorem dX0_putOut_4 : decode cX0_putOut 4 = .ok (.iload_n 2, 1) := by decide +kernel
theorem dX0_putOut_5 : decode cX0_putOut 5 = .ok (.iconst 0, 1) := by decide +kernel
theorem dX0_putOut_6 : decode cX0_putOut 6 = .ok (.bastore, 1) := by decide +kernel
theorem dX0_putOut_7 : decode cX0_putOut 7 = .ok (.aload_n 0, 1) := by decide +kernel
theorem dX0_putOut_8 : decode cX0_putOut 8 = .ok (.getfield 9, 3) := by decide +kernel
theorem dX0_putOut_11 : decode cX0_putOut 11 = .ok (.aload_n 1, 1) := by decide +kernel
theorem dX0_putOut_12 : decode cX0_putOut 12 = .ok (.getfield 148, 3) := by decide +kernel
theorem dX0_putOut_15 : decode cX0_putOut 15 = .ok (.iload_n 2, 1) := by decide +kernel
theorem dX0_putOut_16 : decode cX0_putOut 16 = .ok (.iaload, 1) := by decide +kernel
theorem dX0_putOut_17 : decode cX0_putOut 17 = .ok (.dup2, 1) := by decide +kernel
theorem dX0_putOut_18 : decode cX0_putOut 18 = .ok (.iaload, 1) := by decide +kernel
theorem dX0_putOut_19 : decode cX0_putOut 19 = .ok (.iconst 1, 1) := by decide +kernel
theorem dX0_putOut_20 : decode cX0_putOut 20 = .ok (.isub, 1) := by decide +kernel
theorem dX0_putOut_21 : decode cX0_putOut 21 = .ok (.iastore, 1) := by decide +kernel
theorem dX0_putOut_22 : decode cX0_putOut 22 = .ok (.return_, 1) := by decide +kernel
