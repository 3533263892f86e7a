theorem dL_build_0 : decode cL_build 0 = .ok (.new 9, 3) := by decide +kernel
theorem dL_build_3 : decode cL_build 3 = .ok (.dup, 1) := by decide +kernel
theorem dL_build_4 : decode cL_build 4 = .ok (.invokespecial 11, 3) := by decide +kernel
theorem dL_build_7 : decode cL_build 7 = .ok (.astore_n 2, 1) := by decide +kernel
theorem dL_build_8 : decode cL_build 8 = .ok (.iconst 2, 1) := by decide +kernel
theorem dL_build_9 : decode cL_build 9 = .ok (.aload_n 1, 1) := by decide +kernel
theorem dL_build_10 : decode cL_build 10 = .ok (.iconst 0, 1) := by decide +kernel
theorem dL_build_11 : decode cL_build 11 = .ok (.invokestatic 12, 3) := by decide +kernel
theorem dL_build_14 : decode cL_build 14 = .ok (.bipush 10, 2) := by decide +kernel
theorem dL_build_16 : decode cL_build 16 = .ok (.invokestatic 18, 3) := by decide +kernel
theorem dL_build_19 : decode cL_build 19 = .ok (.iadd, 1) := by decide +kernel
theorem dL_build_20 : decode cL_build 20 = .ok (.istore_n 3, 1) := by decide +kernel
theorem dL_build_21 : decode cL_build 21 = .ok (.iconst 0, 1) := by decide +kernel
theorem dL_build_22 : decode cL_build 22 = .ok (.istore 4, 2) := by decide +kernel
theorem dL_build_24 : decode cL_build 24 = .ok (.iload 4, 2) := by decide +kernel
theorem dL_build_26 : decode cL_build 26 = .ok (.iload_n 3, 1) := by decide +kernel
theorem dL_build_27 : decode cL_build 27 = .ok (.if_icmp .ge 52, 3) := by decide +kernel
theorem dL_build_30 : decode cL_build 30 = .ok (.aload_n 1, 1) := by decide +kernel
theorem dL_build_31 : decode cL_build 31 = .ok (.iconst 1, 1) := by decide +kernel
theorem dL_build_32 : decode cL_build 32 = .ok (.invokestatic 12, 3) := by decide +kernel
theorem dL_build_35 : decode cL_build 35 = .ok (.iconst 2, 1) := by decide +kernel
theorem dL_build_36 : decode cL_build 36 = .ok (.iload 4, 2) := by decide +kernel
theorem dL_build_38 : decode cL_build 38 = .ok (.imul, 1) := by decide +kernel
theorem dL_build_39 : decode cL_build 39 = .ok (.ishr, 1) := by decide +kernel
theorem dL_build_40 : decode cL_build 40 = .ok (.bipush 31, 2) := by decide +kernel
theorem dL_build_42 : decode cL_build 42 = .ok (.invokestatic 18, 3) := by decide +kernel
theorem dL_build_45 : decode cL_build 45 = .ok (.istore 5, 2) := by decide +kernel
theorem dL_build_47 : decode cL_build 47 = .ok (.aload_n 0, 1) := by decide +kernel
theorem dL_build_48 : decode cL_build 48 = .ok (.iload 5, 2) := by decide +kernel
theorem dL_build_50 : decode cL_build 50 = .ok (.invokevirtual 22, 3) := by decide +kernel
theorem dL_build_53 : decode cL_build 53 = .ok (.iload 4, 2) := by decide +kernel
theorem dL_build_55 : decode cL_build 55 = .ok (.if_icmp .eq 5, 3) := by decide +kernel
theorem dL_build_58 : decode cL_build 58 = .ok (.aconst_null, 1) := by decide +kernel
theorem dL_build_59 : decode cL_build 59 = .ok (.areturn, 1) := by decide +kernel
theorem dL_build_60 : decode cL_build 60 = .ok (.aload_n 2, 1) := by decide +kernel
theorem dL_build_61 : decode cL_build 61 = .ok (.aload_n 2, 1) := by decide +kernel
theorem dL_build_62 : decode cL_build 62 = .ok (.getfield 28, 3) := by decide +kernel
theorem dL_build_65 : decode cL_build 65 = .ok (.iload 5, 2) := by decide +kernel
theorem dL_build_67 : decode cL_build 67 = .ok (.invokestatic 32, 3) := by decide +kernel
theorem dL_build_70 : decode cL_build 70 = .ok (.putfield 28, 3) := by decide +kernel
theorem dL_build_73 : decode cL_build 73 = .ok (.iinc 4 1, 3) := by decide +kernel
theorem dL_build_76 : decode cL_build 76 = .ok (.goto (-52), 3) := by decide +kernel
theorem dL_build_79 : decode cL_build 79 = .ok (.iconst 1, 1) := by decide +kernel
theorem dL_build_80 : decode cL_build 80 = .ok (.aload_n 1, 1) := by decide +kernel
theorem dL_build_81 : decode cL_build 81 = .ok (.iconst 2, 1) := by decide +kernel
theorem dL_build_82 : decode cL_build 82 = .ok (.invokestatic 12, 3) := by decide +kernel
theorem dL_build_85 : decode cL_build 85 = .ok (.bipush 18, 2) := by decide +kernel
theorem dL_build_87 : decode cL_build 87 = .ok (.invokestatic 18, 3) := by decide +kernel
theorem dL_build_90 : decode cL_build 90 = .ok (.iadd, 1) := by decide +kernel
theorem dL_build_91 : decode cL_build 91 = .ok (.istore 4, 2) := by decide +kernel
theorem dL_build_93 : decode cL_build 93 = .ok (.iconst 0, 1) := by decide +kernel
theorem dL_build_94 : decode cL_build 94 = .ok (.istore 5, 2) := by decide +kernel
theorem dL_build_96 : decode cL_build 96 = .ok (.iload 5, 2) := by decide +kernel
theorem dL_build_98 : decode cL_build 98 = .ok (.iload 4, 2) := by decide +kernel
theorem dL_build_100 : decode cL_build 100 = .ok (.if_icmp .ge 154, 3) := by decide +kernel
theorem dL_build_103 : decode cL_build 103 = .ok (.aload_n 1, 1) := by decide +kernel
theorem dL_build_104 : decode cL_build 104 = .ok (.iconst 3, 1) := by decide +kernel
theorem dL_build_105 : decode cL_build 105 = .ok (.iload 5, 2) := by decide +kernel
theorem dL_build_107 : decode cL_build 107 = .ok (.iconst 3, 1) := by decide +kernel
theorem dL_build_108 : decode cL_build 108 = .ok (.irem, 1) := by decide +kernel
theorem dL_build_109 : decode cL_build 109 = .ok (.iadd, 1) := by decide +kernel
theorem dL_build_110 : decode cL_build 110 = .ok (.invokestatic 12, 3) := by decide +kernel
theorem dL_build_113 : decode cL_build 113 = .ok (.iload 5, 2) := by decide +kernel
theorem dL_build_115 : decode cL_build 115 = .ok (.iconst 3, 1) := by decide +kernel
theorem dL_build_116 : decode cL_build 116 = .ok (.idiv, 1) := by decide +kernel
theorem dL_build_117 : decode cL_build 117 = .ok (.iconst 3, 1) := by decide +kernel
theorem dL_build_118 : decode cL_build 118 = .ok (.imul, 1) := by decide +kernel
theorem dL_build_119 : decode cL_build 119 = .ok (.ishr, 1) := by decide +kernel
theorem dL_build_120 : decode cL_build 120 = .ok (.bipush 13, 2) := by decide +kernel
theorem dL_build_122 : decode cL_build 122 = .ok (.iload 5, 2) := by decide +kernel
theorem dL_build_124 : decode cL_build 124 = .ok (.imul, 1) := by decide +kernel
theorem dL_build_125 : decode cL_build 125 = .ok (.iadd, 1) := by decide +kernel
theorem dL_build_126 : decode cL_build 126 = .ok (.istore 6, 2) := by decide +kernel
theorem dL_build_128 : decode cL_build 128 = .ok (.iload 5, 2) := by decide +kernel
theorem dL_build_130 : decode cL_build 130 = .ok (.iload_n 3, 1) := by decide +kernel
theorem dL_build_131 : decode cL_build 131 = .ok (.iconst 1, 1) := by decide +kernel
theorem dL_build_132 : decode cL_build 132 = .ok (.isub, 1) := by decide +kernel
theorem dL_build_133 : decode cL_build 133 = .ok (.if_icmp .ge 20, 3) := by decide +kernel
theorem dL_build_136 : decode cL_build 136 = .ok (.iload 6, 2) := by decide +kernel
theorem dL_build_138 : decode cL_build 138 = .ok (.bipush 6, 2) := by decide +kernel
theorem dL_build_140 : decode cL_build 140 = .ok (.ishr, 1) := by decide +kernel
theorem dL_build_141 : decode cL_build 141 = .ok (.iconst 5, 1) := by decide +kernel
theorem dL_build_142 : decode cL_build 142 = .ok (.invokestatic 18, 3) := by decide +kernel
theorem dL_build_145 : decode cL_build 145 = .ok (.ifCond .le 8, 3) := by decide +kernel
theorem dL_build_148 : decode cL_build 148 = .ok (.iload 5, 2) := by decide +kernel
theorem dL_build_150 : decode cL_build 150 = .ok (.goto 9, 3) := by decide +kernel
theorem dL_build_153 : decode cL_build 153 = .ok (.iload 6, 2) := by decide +kernel
theorem dL_build_155 : decode cL_build 155 = .ok (.iload_n 3, 1) := by decide +kernel
theorem dL_build_156 : decode cL_build 156 = .ok (.invokestatic 18, 3) := by decide +kernel
theorem dL_build_159 : decode cL_build 159 = .ok (.istore 7, 2) := by decide +kernel
theorem dL_build_161 : decode cL_build 161 = .ok (.iload 7, 2) := by decide +kernel
theorem dL_build_163 : decode cL_build 163 = .ok (.iconst 1, 1) := by decide +kernel
theorem dL_build_164 : decode cL_build 164 = .ok (.iadd, 1) := by decide +kernel
theorem dL_build_165 : decode cL_build 165 = .ok (.iload 6, 2) := by decide +kernel
theorem dL_build_167 : decode cL_build 167 = .ok (.iconst 2, 1) := by decide +kernel
theorem dL_build_168 : decode cL_build 168 = .ok (.ishr, 1) := by decide +kernel
theorem dL_build_169 : decode cL_build 169 = .ok (.iconst 3, 1) := by decide +kernel
theorem dL_build_170 : decode cL_build 170 = .ok (.iload_n 3, 1) := by decide +kernel
theorem dL_build_171 : decode cL_build 171 = .ok (.iconst 1, 1) := by decide +kernel
theorem dL_build_172 : decode cL_build 172 = .ok (.isub, 1) := by decide +kernel
theorem dL_build_173 : decode cL_build 173 = .ok (.invokestatic 36, 3) := by decide +kernel
theorem dL_build_176 : decode cL_build 176 = .ok (.invokestatic 18, 3) := by decide +kernel
theorem dL_build_179 : decode cL_build 179 = .ok (.iadd, 1) := by decide +kernel
theorem dL_build_180 : decode cL_build 180 = .ok (.iload_n 3, 1) := by decide +kernel
theorem dL_build_181 : decode cL_build 181 = .ok (.irem, 1) := by decide +kernel
theorem dL_build_182 : decode cL_build 182 = .ok (.istore 8, 2) := by decide +kernel
theorem dL_build_184 : decode cL_build 184 = .ok (.aload_n 0, 1) := by decide +kernel
theorem dL_build_185 : decode cL_build 185 = .ok (.iload 7, 2) := by decide +kernel
theorem dL_build_187 : decode cL_build 187 = .ok (.iload 8, 2) := by decide +kernel
theorem dL_build_189 : decode cL_build 189 = .ok (.iconst 1, 1) := by decide +kernel
theorem dL_build_190 : decode cL_build 190 = .ok (.iload 6, 2) := by decide +kernel
theorem dL_build_192 : decode cL_build 192 = .ok (.iconst 4, 1) := by decide +kernel
theorem dL_build_193 : decode cL_build 193 = .ok (.ishr, 1) := by decide +kernel
theorem dL_build_194 : decode cL_build 194 = .ok (.bipush 9, 2) := by decide +kernel
theorem dL_build_196 : decode cL_build 196 = .ok (.invokestatic 18, 3) := by decide +kernel
theorem dL_build_199 : decode cL_build 199 = .ok (.iadd, 1) := by decide +kernel
theorem dL_build_200 : decode cL_build 200 = .ok (.invokevirtual 41, 3) := by decide +kernel
theorem dL_build_203 : decode cL_build 203 = .ok (.iload 5, 2) := by decide +kernel
theorem dL_build_205 : decode cL_build 205 = .ok (.if_icmp .eq 5, 3) := by decide +kernel
theorem dL_build_208 : decode cL_build 208 = .ok (.aconst_null, 1) := by decide +kernel
theorem dL_build_209 : decode cL_build 209 = .ok (.areturn, 1) := by decide +kernel
theorem dL_build_210 : decode cL_build 210 = .ok (.aload_n 2, 1) := by decide +kernel
theorem dL_build_211 : decode cL_build 211 = .ok (.aload_n 2, 1) := by decide +kernel
theorem dL_build_212 : decode cL_build 212 = .ok (.getfield 45, 3) := by decide +kernel
theorem dL_build_215 : decode cL_build 215 = .ok (.iconst 3, 1) := by decide +kernel
theorem dL_build_216 : decode cL_build 216 = .ok (.newarray .int, 2) := by decide +kernel
theorem dL_build_218 : decode cL_build 218 = .ok (.dup, 1) := by decide +kernel
theorem dL_build_219 : decode cL_build 219 = .ok (.iconst 0, 1) := by decide +kernel
theorem dL_build_220 : decode cL_build 220 = .ok (.iload 7, 2) := by decide +kernel
theorem dL_build_222 : decode cL_build 222 = .ok (.iastore, 1) := by decide +kernel
theorem dL_build_223 : decode cL_build 223 = .ok (.dup, 1) := by decide +kernel
theorem dL_build_224 : decode cL_build 224 = .ok (.iconst 1, 1) := by decide +kernel
theorem dL_build_225 : decode cL_build 225 = .ok (.iload 8, 2) := by decide +kernel
theorem dL_build_227 : decode cL_build 227 = .ok (.iastore, 1) := by decide +kernel
theorem dL_build_228 : decode cL_build 228 = .ok (.dup, 1) := by decide +kernel
theorem dL_build_229 : decode cL_build 229 = .ok (.iconst 2, 1) := by decide +kernel
theorem dL_build_230 : decode cL_build 230 = .ok (.iconst 1, 1) := by decide +kernel
theorem dL_build_231 : decode cL_build 231 = .ok (.iload 6, 2) := by decide +kernel
theorem dL_build_233 : decode cL_build 233 = .ok (.iconst 4, 1) := by decide +kernel
theorem dL_build_234 : decode cL_build 234 = .ok (.ishr, 1) := by decide +kernel
theorem dL_build_235 : decode cL_build 235 = .ok (.bipush 9, 2) := by decide +kernel
theorem dL_build_237 : decode cL_build 237 = .ok (.invokestatic 18, 3) := by decide +kernel
theorem dL_build_240 : decode cL_build 240 = .ok (.iadd, 1) := by decide +kernel
theorem dL_build_241 : decode cL_build 241 = .ok (.iastore, 1) := by decide +kernel
theorem dL_build_242 : decode cL_build 242 = .ok (.invokestatic 49, 3) := by decide +kernel
theorem dL_build_245 : decode cL_build 245 = .ok (.putfield 45, 3) := by decide +kernel
theorem dL_build_248 : decode cL_build 248 = .ok (.iinc 5 1, 3) := by decide +kernel
theorem dL_build_251 : decode cL_build 251 = .ok (.goto (-155), 3) := by decide +kernel
theorem dL_build_254 : decode cL_build 254 = .ok (.aload_n 2, 1) := by decide +kernel
theorem dL_build_255 : decode cL_build 255 = .ok (.invokevirtual 52, 3) := by decide +kernel
theorem dL_build_258 : decode cL_build 258 = .ok (.iconst 1, 1) := by decide +kernel
theorem dL_build_259 : decode cL_build 259 = .ok (.aload_n 1, 1) := by decide +kernel
