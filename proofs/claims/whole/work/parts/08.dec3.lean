theorem dX7_init_0 : decode cX7_init 0 = .ok (.aload_n 0, 1) := by decide +kernel
theorem dX7_init_1 : decode cX7_init 1 = .ok (.invokespecial 3, 3) := by decide +kernel
theorem dX7_init_4 : decode cX7_init 4 = .ok (.aload_n 0, 1) := by decide +kernel
theorem dX7_init_5 : decode cX7_init 5 = .ok (.iconst 5, 1) := by decide +kernel
theorem dX7_init_6 : decode cX7_init 6 = .ok (.newarray .long, 2) := by decide +kernel
theorem dX7_init_8 : decode cX7_init 8 = .ok (.dup, 1) := by decide +kernel
theorem dX7_init_9 : decode cX7_init 9 = .ok (.iconst 0, 1) := by decide +kernel
theorem dX7_init_10 : decode cX7_init 10 = .ok (.ldc2_w 9, 3) := by decide +kernel
theorem dX7_init_13 : decode cX7_init 13 = .ok (.lastore, 1) := by decide +kernel
theorem dX7_init_14 : decode cX7_init 14 = .ok (.dup, 1) := by decide +kernel
theorem dX7_init_15 : decode cX7_init 15 = .ok (.iconst 1, 1) := by decide +kernel
theorem dX7_init_16 : decode cX7_init 16 = .ok (.lconst 0, 1) := by decide +kernel
theorem dX7_init_17 : decode cX7_init 17 = .ok (.lastore, 1) := by decide +kernel
theorem dX7_init_18 : decode cX7_init 18 = .ok (.dup, 1) := by decide +kernel
theorem dX7_init_19 : decode cX7_init 19 = .ok (.iconst 2, 1) := by decide +kernel
theorem dX7_init_20 : decode cX7_init 20 = .ok (.lconst 0, 1) := by decide +kernel
theorem dX7_init_21 : decode cX7_init 21 = .ok (.lastore, 1) := by decide +kernel
theorem dX7_init_22 : decode cX7_init 22 = .ok (.dup, 1) := by decide +kernel
theorem dX7_init_23 : decode cX7_init 23 = .ok (.iconst 3, 1) := by decide +kernel
theorem dX7_init_24 : decode cX7_init 24 = .ok (.lconst 0, 1) := by decide +kernel
theorem dX7_init_25 : decode cX7_init 25 = .ok (.lastore, 1) := by decide +kernel
theorem dX7_init_26 : decode cX7_init 26 = .ok (.dup, 1) := by decide +kernel
theorem dX7_init_27 : decode cX7_init 27 = .ok (.iconst 4, 1) := by decide +kernel
theorem dX7_init_28 : decode cX7_init 28 = .ok (.lconst 0, 1) := by decide +kernel
theorem dX7_init_29 : decode cX7_init 29 = .ok (.lastore, 1) := by decide +kernel
theorem dX7_init_30 : decode cX7_init 30 = .ok (.putfield 11, 3) := by decide +kernel
theorem dX7_init_33 : decode cX7_init 33 = .ok (.aload_n 0, 1) := by decide +kernel
theorem dX7_init_34 : decode cX7_init 34 = .ok (.bipush 8, 2) := by decide +kernel
theorem dX7_init_36 : decode cX7_init 36 = .ok (.newarray .int, 2) := by decide +kernel
theorem dX7_init_38 : decode cX7_init 38 = .ok (.putfield 17, 3) := by decide +kernel
theorem dX7_init_41 : decode cX7_init 41 = .ok (.aload_n 0, 1) := by decide +kernel
theorem dX7_init_42 : decode cX7_init 42 = .ok (.iconst 5, 1) := by decide +kernel
theorem dX7_init_43 : decode cX7_init 43 = .ok (.newarray .long, 2) := by decide +kernel
theorem dX7_init_45 : decode cX7_init 45 = .ok (.putfield 21, 3) := by decide +kernel
theorem dX7_init_48 : decode cX7_init 48 = .ok (.aload_n 0, 1) := by decide +kernel
theorem dX7_init_49 : decode cX7_init 49 = .ok (.iconst 5, 1) := by decide +kernel
theorem dX7_init_50 : decode cX7_init 50 = .ok (.newarray .int, 2) := by decide +kernel
theorem dX7_init_52 : decode cX7_init 52 = .ok (.putfield 24, 3) := by decide +kernel
theorem dX7_init_55 : decode cX7_init 55 = .ok (.aload_n 0, 1) := by decide +kernel
theorem dX7_init_56 : decode cX7_init 56 = .ok (.sipush 600, 3) := by decide +kernel
theorem dX7_init_59 : decode cX7_init 59 = .ok (.newarray .long, 2) := by decide +kernel
theorem dX7_init_61 : decode cX7_init 61 = .ok (.putfield 27, 3) := by decide +kernel
theorem dX7_init_64 : decode cX7_init 64 = .ok (.aload_n 0, 1) := by decide +kernel
theorem dX7_init_65 : decode cX7_init 65 = .ok (.bipush 120, 2) := by decide +kernel
theorem dX7_init_67 : decode cX7_init 67 = .ok (.newarray .int, 2) := by decide +kernel
theorem dX7_init_69 : decode cX7_init 69 = .ok (.putfield 30, 3) := by decide +kernel
theorem dX7_init_72 : decode cX7_init 72 = .ok (.aload_n 0, 1) := by decide +kernel
theorem dX7_init_73 : decode cX7_init 73 = .ok (.iconst 5, 1) := by decide +kernel
theorem dX7_init_74 : decode cX7_init 74 = .ok (.newarray .long, 2) := by decide +kernel
theorem dX7_init_76 : decode cX7_init 76 = .ok (.putfield 33, 3) := by decide +kernel
theorem dX7_init_79 : decode cX7_init 79 = .ok (.aload_n 0, 1) := by decide +kernel
theorem dX7_init_80 : decode cX7_init 80 = .ok (.iconst 5, 1) := by decide +kernel
theorem dX7_init_81 : decode cX7_init 81 = .ok (.newarray .long, 2) := by decide +kernel
theorem dX7_init_83 : decode cX7_init 83 = .ok (.putfield 36, 3) := by decide +kernel
theorem dX7_init_86 : decode cX7_init 86 = .ok (.aload_n 0, 1) := by decide +kernel
theorem dX7_init_87 : decode cX7_init 87 = .ok (.iconst 5, 1) := by decide +kernel
theorem dX7_init_88 : decode cX7_init 88 = .ok (.newarray .long, 2) := by decide +kernel
theorem dX7_init_90 : decode cX7_init 90 = .ok (.putfield 39, 3) := by decide +kernel
theorem dX7_init_93 : decode cX7_init 93 = .ok (.aload_n 0, 1) := by decide +kernel
theorem dX7_init_94 : decode cX7_init 94 = .ok (.bipush 36, 2) := by decide +kernel
theorem dX7_init_96 : decode cX7_init 96 = .ok (.newarray .long, 2) := by decide +kernel
theorem dX7_init_98 : decode cX7_init 98 = .ok (.putfield 42, 3) := by decide +kernel
theorem dX7_init_101 : decode cX7_init 101 = .ok (.aload_n 0, 1) := by decide +kernel
theorem dX7_init_102 : decode cX7_init 102 = .ok (.iconst 3, 1) := by decide +kernel
theorem dX7_init_103 : decode cX7_init 103 = .ok (.newarray .int, 2) := by decide +kernel
theorem dX7_init_105 : decode cX7_init 105 = .ok (.putfield 45, 3) := by decide +kernel
theorem dX7_init_108 : decode cX7_init 108 = .ok (.aload_n 0, 1) := by decide +kernel
theorem dX7_init_109 : decode cX7_init 109 = .ok (.bipush 8, 2) := by decide +kernel
theorem dX7_init_111 : decode cX7_init 111 = .ok (.newarray .float, 2) := by decide +kernel
theorem dX7_init_113 : decode cX7_init 113 = .ok (.putfield 48, 3) := by decide +kernel
theorem dX7_init_116 : decode cX7_init 116 = .ok (.aload_n 0, 1) := by decide +kernel
theorem dX7_init_117 : decode cX7_init 117 = .ok (.bipush 12, 2) := by decide +kernel
theorem dX7_init_119 : decode cX7_init 119 = .ok (.newarray .int, 2) := by decide +kernel
theorem dX7_init_121 : decode cX7_init 121 = .ok (.putfield 52, 3) := by decide +kernel
theorem dX7_init_124 : decode cX7_init 124 = .ok (.aload_n 0, 1) := by decide +kernel
theorem dX7_init_125 : decode cX7_init 125 = .ok (.iconst 3, 1) := by decide +kernel
theorem dX7_init_126 : decode cX7_init 126 = .ok (.newarray .int, 2) := by decide +kernel
theorem dX7_init_128 : decode cX7_init 128 = .ok (.putfield 55, 3) := by decide +kernel
theorem dX7_init_131 : decode cX7_init 131 = .ok (.aload_n 0, 1) := by decide +kernel
theorem dX7_init_132 : decode cX7_init 132 = .ok (.bipush 60, 2) := by decide +kernel
theorem dX7_init_134 : decode cX7_init 134 = .ok (.newarray .int, 2) := by decide +kernel
theorem dX7_init_136 : decode cX7_init 136 = .ok (.putfield 58, 3) := by decide +kernel
theorem dX7_init_139 : decode cX7_init 139 = .ok (.aload_n 0, 1) := by decide +kernel
theorem dX7_init_140 : decode cX7_init 140 = .ok (.iconst 3, 1) := by decide +kernel
theorem dX7_init_141 : decode cX7_init 141 = .ok (.newarray .int, 2) := by decide +kernel
theorem dX7_init_143 : decode cX7_init 143 = .ok (.putfield 61, 3) := by decide +kernel
theorem dX7_init_146 : decode cX7_init 146 = .ok (.aload_n 0, 1) := by decide +kernel
theorem dX7_init_147 : decode cX7_init 147 = .ok (.bipush 8, 2) := by decide +kernel
theorem dX7_init_149 : decode cX7_init 149 = .ok (.newarray .int, 2) := by decide +kernel
theorem dX7_init_151 : decode cX7_init 151 = .ok (.putfield 64, 3) := by decide +kernel
theorem dX7_init_154 : decode cX7_init 154 = .ok (.aload_n 0, 1) := by decide +kernel
theorem dX7_init_155 : decode cX7_init 155 = .ok (.iconst 4, 1) := by decide +kernel
theorem dX7_init_156 : decode cX7_init 156 = .ok (.newarray .int, 2) := by decide +kernel
theorem dX7_init_158 : decode cX7_init 158 = .ok (.putfield 67, 3) := by decide +kernel
theorem dX7_init_161 : decode cX7_init 161 = .ok (.aload_n 0, 1) := by decide +kernel
theorem dX7_init_162 : decode cX7_init 162 = .ok (.iconst 4, 1) := by decide +kernel
theorem dX7_init_163 : decode cX7_init 163 = .ok (.newarray .int, 2) := by decide +kernel
theorem dX7_init_165 : decode cX7_init 165 = .ok (.putfield 70, 3) := by decide +kernel
theorem dX7_init_168 : decode cX7_init 168 = .ok (.aload_n 0, 1) := by decide +kernel
theorem dX7_init_169 : decode cX7_init 169 = .ok (.bipush 48, 2) := by decide +kernel
theorem dX7_init_171 : decode cX7_init 171 = .ok (.newarray .int, 2) := by decide +kernel
theorem dX7_init_173 : decode cX7_init 173 = .ok (.putfield 73, 3) := by decide +kernel
theorem dX7_init_176 : decode cX7_init 176 = .ok (.aload_n 0, 1) := by decide +kernel
theorem dX7_init_177 : decode cX7_init 177 = .ok (.iconst 5, 1) := by decide +kernel
theorem dX7_init_178 : decode cX7_init 178 = .ok (.newarray .long, 2) := by decide +kernel
theorem dX7_init_180 : decode cX7_init 180 = .ok (.putfield 76, 3) := by decide +kernel
theorem dX7_init_183 : decode cX7_init 183 = .ok (.aload_n 0, 1) := by decide +kernel
theorem dX7_init_184 : decode cX7_init 184 = .ok (.bipush 8, 2) := by decide +kernel
theorem dX7_init_186 : decode cX7_init 186 = .ok (.newarray .int, 2) := by decide +kernel
theorem dX7_init_188 : decode cX7_init 188 = .ok (.putfield 79, 3) := by decide +kernel
theorem dX7_init_191 : decode cX7_init 191 = .ok (.aload_n 0, 1) := by decide +kernel
theorem dX7_init_192 : decode cX7_init 192 = .ok (.bipush 8, 2) := by decide +kernel
theorem dX7_init_194 : decode cX7_init 194 = .ok (.newarray .float, 2) := by decide +kernel
theorem dX7_init_196 : decode cX7_init 196 = .ok (.putfield 82, 3) := by decide +kernel
theorem dX7_init_199 : decode cX7_init 199 = .ok (.aload_n 0, 1) := by decide +kernel
theorem dX7_init_200 : decode cX7_init 200 = .ok (.bipush 12, 2) := by decide +kernel
theorem dX7_init_202 : decode cX7_init 202 = .ok (.newarray .int, 2) := by decide +kernel
theorem dX7_init_204 : decode cX7_init 204 = .ok (.putfield 85, 3) := by decide +kernel
theorem dX7_init_207 : decode cX7_init 207 = .ok (.aload_n 0, 1) := by decide +kernel
theorem dX7_init_208 : decode cX7_init 208 = .ok (.iconst 3, 1) := by decide +kernel
theorem dX7_init_209 : decode cX7_init 209 = .ok (.newarray .int, 2) := by decide +kernel
theorem dX7_init_211 : decode cX7_init 211 = .ok (.putfield 88, 3) := by decide +kernel
theorem dX7_init_214 : decode cX7_init 214 = .ok (.iconst 0, 1) := by decide +kernel
theorem dX7_init_215 : decode cX7_init 215 = .ok (.istore_n 1, 1) := by decide +kernel
theorem dX7_init_216 : decode cX7_init 216 = .ok (.iload_n 1, 1) := by decide +kernel
theorem dX7_init_217 : decode cX7_init 217 = .ok (.iconst 3, 1) := by decide +kernel
theorem dX7_init_218 : decode cX7_init 218 = .ok (.if_icmp .ge 16, 3) := by decide +kernel
theorem dX7_init_221 : decode cX7_init 221 = .ok (.aload_n 0, 1) := by decide +kernel
theorem dX7_init_222 : decode cX7_init 222 = .ok (.getfield 45, 3) := by decide +kernel
theorem dX7_init_225 : decode cX7_init 225 = .ok (.iload_n 1, 1) := by decide +kernel
theorem dX7_init_226 : decode cX7_init 226 = .ok (.iconst (-1), 1) := by decide +kernel
theorem dX7_init_227 : decode cX7_init 227 = .ok (.iastore, 1) := by decide +kernel
theorem dX7_init_228 : decode cX7_init 228 = .ok (.iinc 1 1, 3) := by decide +kernel
theorem dX7_init_231 : decode cX7_init 231 = .ok (.goto (-15), 3) := by decide +kernel
theorem dX7_init_234 : decode cX7_init 234 = .ok (.iconst 0, 1) := by decide +kernel
theorem dX7_init_235 : decode cX7_init 235 = .ok (.istore_n 1, 1) := by decide +kernel
theorem dX7_init_236 : decode cX7_init 236 = .ok (.iload_n 1, 1) := by decide +kernel
theorem dX7_init_237 : decode cX7_init 237 = .ok (.bipush 12, 2) := by decide +kernel
theorem dX7_init_239 : decode cX7_init 239 = .ok (.if_icmp .ge 16, 3) := by decide +kernel
theorem dX7_init_242 : decode cX7_init 242 = .ok (.aload_n 0, 1) := by decide +kernel
theorem dX7_init_243 : decode cX7_init 243 = .ok (.getfield 52, 3) := by decide +kernel
theorem dX7_init_246 : decode cX7_init 246 = .ok (.iload_n 1, 1) := by decide +kernel
theorem dX7_init_247 : decode cX7_init 247 = .ok (.iconst (-1), 1) := by decide +kernel
theorem dX7_init_248 : decode cX7_init 248 = .ok (.iastore, 1) := by decide +kernel
theorem dX7_init_249 : decode cX7_init 249 = .ok (.iinc 1 1, 3) := by decide +kernel
theorem dX7_init_252 : decode cX7_init 252 = .ok (.goto (-16), 3) := by decide +kernel
theorem dX7_init_255 : decode cX7_init 255 = .ok (.iconst 0, 1) := by decide +kernel
theorem dX7_init_256 : decode cX7_init 256 = .ok (.istore_n 1, 1) := by decide +kernel
theorem dX7_init_257 : decode cX7_init 257 = .ok (.iload_n 1, 1) := by decide +kernel
theorem dX7_init_258 : decode cX7_init 258 = .ok (.iconst 3, 1) := by decide +kernel
theorem dX7_init_259 : decode cX7_init 259 = .ok (.if_icmp .ge 16, 3) := by decide +kernel
theorem dX7_init_262 : decode cX7_init 262 = .ok (.aload_n 0, 1) := by decide +kernel
theorem dX7_init_263 : decode cX7_init 263 = .ok (.getfield 55, 3) := by decide +kernel
theorem dX7_init_266 : decode cX7_init 266 = .ok (.iload_n 1, 1) := by decide +kernel
theorem dX7_init_267 : decode cX7_init 267 = .ok (.iload_n 1, 1) := by decide +kernel
theorem dX7_init_268 : decode cX7_init 268 = .ok (.iastore, 1) := by decide +kernel
theorem dX7_init_269 : decode cX7_init 269 = .ok (.iinc 1 1, 3) := by decide +kernel
theorem dX7_init_272 : decode cX7_init 272 = .ok (.goto (-15), 3) := by decide +kernel
theorem dX7_init_275 : decode cX7_init 275 = .ok (.return_, 1) := by decide +kernel
theorem dX7_in_0 : decode cX7_in 0 = .ok (.lload_n 0, 1) := by decide +kernel
theorem dX7_in_1 : decode cX7_in 1 = .ok (.lload_n 2, 1) := by decide +kernel
theorem dX7_in_2 : decode cX7_in 2 = .ok (.lcmp, 1) := by decide +kernel
theorem dX7_in_3 : decode cX7_in 3 = .ok (.ifCond .lt 14, 3) := by decide +kernel
theorem dX7_in_6 : decode cX7_in 6 = .ok (.lload_n 0, 1) := by decide +kernel
theorem dX7_in_7 : decode cX7_in 7 = .ok (.lload 4, 2) := by decide +kernel
theorem dX7_in_9 : decode cX7_in 9 = .ok (.lcmp, 1) := by decide +kernel
theorem dX7_in_10 : decode cX7_in 10 = .ok (.ifCond .gt 7, 3) := by decide +kernel
theorem dX7_in_13 : decode cX7_in 13 = .ok (.iconst 1, 1) := by decide +kernel
theorem dX7_in_14 : decode cX7_in 14 = .ok (.goto 4, 3) := by decide +kernel
theorem dX7_in_17 : decode cX7_in 17 = .ok (.iconst 0, 1) := by decide +kernel
theorem dX7_in_18 : decode cX7_in 18 = .ok (.ireturn, 1) := by decide +kernel
theorem dX7_isFilter_0 : decode cX7_isFilter 0 = .ok (.iload_n 1, 1) := by decide +kernel
theorem dX7_isFilter_1 : decode cX7_isFilter 1 = .ok (.i2l, 1) := by decide +kernel
theorem dX7_isFilter_2 : decode cX7_isFilter 2 = .ok (.lconst 0, 1) := by decide +kernel
theorem dX7_isFilter_3 : decode cX7_isFilter 3 = .ok (.aload_n 0, 1) := by decide +kernel
theorem dX7_isFilter_4 : decode cX7_isFilter 4 = .ok (.getfield 91, 3) := by decide +kernel
theorem dX7_isFilter_7 : decode cX7_isFilter 7 = .ok (.iconst 1, 1) := by decide +kernel
theorem dX7_isFilter_8 : decode cX7_isFilter 8 = .ok (.isub, 1) := by decide +kernel
theorem dX7_isFilter_9 : decode cX7_isFilter 9 = .ok (.i2l, 1) := by decide +kernel
theorem dX7_isFilter_10 : decode cX7_isFilter 10 = .ok (.invokestatic 95, 3) := by decide +kernel
theorem dX7_isFilter_13 : decode cX7_isFilter 13 = .ok (.ireturn, 1) := by decide +kernel
theorem dX7_isBehind_0 : decode cX7_isBehind 0 = .ok (.iload_n 1, 1) := by decide +kernel
theorem dX7_isBehind_1 : decode cX7_isBehind 1 = .ok (.i2l, 1) := by decide +kernel
theorem dX7_isBehind_2 : decode cX7_isBehind 2 = .ok (.lconst 0, 1) := by decide +kernel
theorem dX7_isBehind_3 : decode cX7_isBehind 3 = .ok (.aload_n 0, 1) := by decide +kernel
theorem dX7_isBehind_4 : decode cX7_isBehind 4 = .ok (.getfield 91, 3) := by decide +kernel
theorem dX7_isBehind_7 : decode cX7_isBehind 7 = .ok (.i2l, 1) := by decide +kernel
theorem dX7_isBehind_8 : decode cX7_isBehind 8 = .ok (.invokestatic 95, 3) := by decide +kernel
theorem dX7_isBehind_11 : decode cX7_isBehind 11 = .ok (.ireturn, 1) := by decide +kernel
theorem dX7_codeOf_0 : decode cX7_codeOf 0 = .ok (.sipush 1000, 3) := by decide +kernel
theorem dX7_codeOf_3 : decode cX7_codeOf 3 = .ok (.iload_n 0, 1) := by decide +kernel
theorem dX7_codeOf_4 : decode cX7_codeOf 4 = .ok (.imul, 1) := by decide +kernel
theorem dX7_codeOf_5 : decode cX7_codeOf 5 = .ok (.bipush 100, 2) := by decide +kernel
theorem dX7_codeOf_7 : decode cX7_codeOf 7 = .ok (.iload_n 1, 1) := by decide +kernel
theorem dX7_codeOf_8 : decode cX7_codeOf 8 = .ok (.imul, 1) := by decide +kernel
theorem dX7_codeOf_9 : decode cX7_codeOf 9 = .ok (.iadd, 1) := by decide +kernel
theorem dX7_codeOf_10 : decode cX7_codeOf 10 = .ok (.iload_n 2, 1) := by decide +kernel
theorem dX7_codeOf_11 : decode cX7_codeOf 11 = .ok (.iadd, 1) := by decide +kernel
theorem dX7_codeOf_12 : decode cX7_codeOf 12 = .ok (.ireturn, 1) := by decide +kernel
theorem dX7_kindOf_0 : decode cX7_kindOf 0 = .ok (.iload_n 0, 1) := by decide +kernel
theorem dX7_kindOf_1 : decode cX7_kindOf 1 = .ok (.sipush 1000, 3) := by decide +kernel
theorem dX7_kindOf_4 : decode cX7_kindOf 4 = .ok (.idiv, 1) := by decide +kernel
theorem dX7_kindOf_5 : decode cX7_kindOf 5 = .ok (.ireturn, 1) := by decide +kernel
theorem dX7_angleOf_0 : decode cX7_angleOf 0 = .ok (.iload_n 0, 1) := by decide +kernel
theorem dX7_angleOf_1 : decode cX7_angleOf 1 = .ok (.bipush 100, 2) := by decide +kernel
theorem dX7_angleOf_3 : decode cX7_angleOf 3 = .ok (.idiv, 1) := by decide +kernel
theorem dX7_angleOf_4 : decode cX7_angleOf 4 = .ok (.bipush 10, 2) := by decide +kernel
theorem dX7_angleOf_6 : decode cX7_angleOf 6 = .ok (.irem, 1) := by decide +kernel
theorem dX7_angleOf_7 : decode cX7_angleOf 7 = .ok (.ireturn, 1) := by decide +kernel
theorem dX7_figureOf_0 : decode cX7_figureOf 0 = .ok (.iload_n 0, 1) := by decide +kernel
theorem dX7_figureOf_1 : decode cX7_figureOf 1 = .ok (.bipush 100, 2) := by decide +kernel
theorem dX7_figureOf_3 : decode cX7_figureOf 3 = .ok (.irem, 1) := by decide +kernel
theorem dX7_figureOf_4 : decode cX7_figureOf 4 = .ok (.ireturn, 1) := by decide +kernel
theorem dX7_mayBe_0 : decode cX7_mayBe 0 = .ok (.lload_n 0, 1) := by decide +kernel
theorem dX7_mayBe_1 : decode cX7_mayBe 1 = .ok (.lconst 0, 1) := by decide +kernel
theorem dX7_mayBe_2 : decode cX7_mayBe 2 = .ok (.lcmp, 1) := by decide +kernel
theorem dX7_mayBe_3 : decode cX7_mayBe 3 = .ok (.ifCond .lt 61, 3) := by decide +kernel
theorem dX7_mayBe_6 : decode cX7_mayBe 6 = .ok (.lload_n 2, 1) := by decide +kernel
theorem dX7_mayBe_7 : decode cX7_mayBe 7 = .ok (.lload_n 0, 1) := by decide +kernel
theorem dX7_mayBe_8 : decode cX7_mayBe 8 = .ok (.lneg, 1) := by decide +kernel
theorem dX7_mayBe_9 : decode cX7_mayBe 9 = .ok (.lload_n 0, 1) := by decide +kernel
theorem dX7_mayBe_10 : decode cX7_mayBe 10 = .ok (.invokestatic 95, 3) := by decide +kernel
theorem dX7_mayBe_13 : decode cX7_mayBe 13 = .ok (.ifCond .eq 51, 3) := by decide +kernel
theorem dX7_mayBe_16 : decode cX7_mayBe 16 = .ok (.lload 4, 2) := by decide +kernel
theorem dX7_mayBe_18 : decode cX7_mayBe 18 = .ok (.lload_n 0, 1) := by decide +kernel
theorem dX7_mayBe_19 : decode cX7_mayBe 19 = .ok (.lneg, 1) := by decide +kernel
theorem dX7_mayBe_20 : decode cX7_mayBe 20 = .ok (.lload_n 0, 1) := by decide +kernel
theorem dX7_mayBe_21 : decode cX7_mayBe 21 = .ok (.invokestatic 95, 3) := by decide +kernel
theorem dX7_mayBe_24 : decode cX7_mayBe 24 = .ok (.ifCond .eq 40, 3) := by decide +kernel
theorem dX7_mayBe_27 : decode cX7_mayBe 27 = .ok (.lload 6, 2) := by decide +kernel
theorem dX7_mayBe_29 : decode cX7_mayBe 29 = .ok (.lload_n 0, 1) := by decide +kernel
theorem dX7_mayBe_30 : decode cX7_mayBe 30 = .ok (.lneg, 1) := by decide +kernel
theorem dX7_mayBe_31 : decode cX7_mayBe 31 = .ok (.lload_n 0, 1) := by decide +kernel
theorem dX7_mayBe_32 : decode cX7_mayBe 32 = .ok (.invokestatic 95, 3) := by decide +kernel
theorem dX7_mayBe_35 : decode cX7_mayBe 35 = .ok (.ifCond .eq 29, 3) := by decide +kernel
theorem dX7_mayBe_38 : decode cX7_mayBe 38 = .ok (.lload_n 2, 1) := by decide +kernel
theorem dX7_mayBe_39 : decode cX7_mayBe 39 = .ok (.lload_n 2, 1) := by decide +kernel
theorem dX7_mayBe_40 : decode cX7_mayBe 40 = .ok (.lmul, 1) := by decide +kernel
theorem dX7_mayBe_41 : decode cX7_mayBe 41 = .ok (.lload 4, 2) := by decide +kernel
theorem dX7_mayBe_43 : decode cX7_mayBe 43 = .ok (.lload 4, 2) := by decide +kernel
theorem dX7_mayBe_45 : decode cX7_mayBe 45 = .ok (.lmul, 1) := by decide +kernel
theorem dX7_mayBe_46 : decode cX7_mayBe 46 = .ok (.ladd, 1) := by decide +kernel
theorem dX7_mayBe_47 : decode cX7_mayBe 47 = .ok (.lload 6, 2) := by decide +kernel
theorem dX7_mayBe_49 : decode cX7_mayBe 49 = .ok (.lload 6, 2) := by decide +kernel
theorem dX7_mayBe_51 : decode cX7_mayBe 51 = .ok (.lmul, 1) := by decide +kernel
theorem dX7_mayBe_52 : decode cX7_mayBe 52 = .ok (.ladd, 1) := by decide +kernel
theorem dX7_mayBe_53 : decode cX7_mayBe 53 = .ok (.lload_n 0, 1) := by decide +kernel
theorem dX7_mayBe_54 : decode cX7_mayBe 54 = .ok (.lload_n 0, 1) := by decide +kernel
theorem dX7_mayBe_55 : decode cX7_mayBe 55 = .ok (.lmul, 1) := by decide +kernel
theorem dX7_mayBe_56 : decode cX7_mayBe 56 = .ok (.lcmp, 1) := by decide +kernel
theorem dX7_mayBe_57 : decode cX7_mayBe 57 = .ok (.ifCond .gt 7, 3) := by decide +kernel
theorem dX7_mayBe_60 : decode cX7_mayBe 60 = .ok (.iconst 1, 1) := by decide +kernel
theorem dX7_mayBe_61 : decode cX7_mayBe 61 = .ok (.goto 4, 3) := by decide +kernel
theorem dX7_mayBe_64 : decode cX7_mayBe 64 = .ok (.iconst 0, 1) := by decide +kernel
theorem dX7_mayBe_65 : decode cX7_mayBe 65 = .ok (.ireturn, 1) := by decide +kernel
theorem dX7_toLowest_0 : decode cX7_toLowest 0 = .ok (.aload_n 0, 1) := by decide +kernel
theorem dX7_toLowest_1 : decode cX7_toLowest 1 = .ok (.iconst 4, 1) := by decide +kernel
theorem dX7_toLowest_2 : decode cX7_toLowest 2 = .ok (.laload, 1) := by decide +kernel
theorem dX7_toLowest_3 : decode cX7_toLowest 3 = .ok (.lconst 0, 1) := by decide +kernel
theorem dX7_toLowest_4 : decode cX7_toLowest 4 = .ok (.lcmp, 1) := by decide +kernel
theorem dX7_toLowest_5 : decode cX7_toLowest 5 = .ok (.ifCond .le 97, 3) := by decide +kernel
theorem dX7_toLowest_8 : decode cX7_toLowest 8 = .ok (.aload_n 0, 1) := by decide +kernel
theorem dX7_toLowest_9 : decode cX7_toLowest 9 = .ok (.iconst 0, 1) := by decide +kernel
theorem dX7_toLowest_10 : decode cX7_toLowest 10 = .ok (.laload, 1) := by decide +kernel
theorem dX7_toLowest_11 : decode cX7_toLowest 11 = .ok (.ldc2_w 99, 3) := by decide +kernel
theorem dX7_toLowest_14 : decode cX7_toLowest 14 = .ok (.lrem, 1) := by decide +kernel
theorem dX7_toLowest_15 : decode cX7_toLowest 15 = .ok (.lconst 0, 1) := by decide +kernel
theorem dX7_toLowest_16 : decode cX7_toLowest 16 = .ok (.lcmp, 1) := by decide +kernel
theorem dX7_toLowest_17 : decode cX7_toLowest 17 = .ok (.ifCond .ne 85, 3) := by decide +kernel
theorem dX7_toLowest_20 : decode cX7_toLowest 20 = .ok (.aload_n 0, 1) := by decide +kernel
theorem dX7_toLowest_21 : decode cX7_toLowest 21 = .ok (.iconst 1, 1) := by decide +kernel
theorem dX7_toLowest_22 : decode cX7_toLowest 22 = .ok (.laload, 1) := by decide +kernel
theorem dX7_toLowest_23 : decode cX7_toLowest 23 = .ok (.ldc2_w 99, 3) := by decide +kernel
theorem dX7_toLowest_26 : decode cX7_toLowest 26 = .ok (.lrem, 1) := by decide +kernel
theorem dX7_toLowest_27 : decode cX7_toLowest 27 = .ok (.lconst 0, 1) := by decide +kernel
theorem dX7_toLowest_28 : decode cX7_toLowest 28 = .ok (.lcmp, 1) := by decide +kernel
theorem dX7_toLowest_29 : decode cX7_toLowest 29 = .ok (.ifCond .ne 73, 3) := by decide +kernel
theorem dX7_toLowest_32 : decode cX7_toLowest 32 = .ok (.aload_n 0, 1) := by decide +kernel
theorem dX7_toLowest_33 : decode cX7_toLowest 33 = .ok (.iconst 2, 1) := by decide +kernel
theorem dX7_toLowest_34 : decode cX7_toLowest 34 = .ok (.laload, 1) := by decide +kernel
theorem dX7_toLowest_35 : decode cX7_toLowest 35 = .ok (.ldc2_w 99, 3) := by decide +kernel
theorem dX7_toLowest_38 : decode cX7_toLowest 38 = .ok (.lrem, 1) := by decide +kernel
theorem dX7_toLowest_39 : decode cX7_toLowest 39 = .ok (.lconst 0, 1) := by decide +kernel
theorem dX7_toLowest_40 : decode cX7_toLowest 40 = .ok (.lcmp, 1) := by decide +kernel
theorem dX7_toLowest_41 : decode cX7_toLowest 41 = .ok (.ifCond .ne 61, 3) := by decide +kernel
theorem dX7_toLowest_44 : decode cX7_toLowest 44 = .ok (.aload_n 0, 1) := by decide +kernel
theorem dX7_toLowest_45 : decode cX7_toLowest 45 = .ok (.iconst 3, 1) := by decide +kernel
theorem dX7_toLowest_46 : decode cX7_toLowest 46 = .ok (.laload, 1) := by decide +kernel
theorem dX7_toLowest_47 : decode cX7_toLowest 47 = .ok (.ldc2_w 99, 3) := by decide +kernel
theorem dX7_toLowest_50 : decode cX7_toLowest 50 = .ok (.lrem, 1) := by decide +kernel
theorem dX7_toLowest_51 : decode cX7_toLowest 51 = .ok (.lconst 0, 1) := by decide +kernel
theorem dX7_toLowest_52 : decode cX7_toLowest 52 = .ok (.lcmp, 1) := by decide +kernel
theorem dX7_toLowest_53 : decode cX7_toLowest 53 = .ok (.ifCond .ne 49, 3) := by decide +kernel
theorem dX7_toLowest_56 : decode cX7_toLowest 56 = .ok (.aload_n 0, 1) := by decide +kernel
theorem dX7_toLowest_57 : decode cX7_toLowest 57 = .ok (.iconst 0, 1) := by decide +kernel
theorem dX7_toLowest_58 : decode cX7_toLowest 58 = .ok (.dup2, 1) := by decide +kernel
theorem dX7_toLowest_59 : decode cX7_toLowest 59 = .ok (.laload, 1) := by decide +kernel
theorem dX7_toLowest_60 : decode cX7_toLowest 60 = .ok (.ldc2_w 99, 3) := by decide +kernel
theorem dX7_toLowest_63 : decode cX7_toLowest 63 = .ok (.ldiv, 1) := by decide +kernel
theorem dX7_toLowest_64 : decode cX7_toLowest 64 = .ok (.lastore, 1) := by decide +kernel
theorem dX7_toLowest_65 : decode cX7_toLowest 65 = .ok (.aload_n 0, 1) := by decide +kernel
theorem dX7_toLowest_66 : decode cX7_toLowest 66 = .ok (.iconst 1, 1) := by decide +kernel
theorem dX7_toLowest_67 : decode cX7_toLowest 67 = .ok (.dup2, 1) := by decide +kernel
theorem dX7_toLowest_68 : decode cX7_toLowest 68 = .ok (.laload, 1) := by decide +kernel
theorem dX7_toLowest_69 : decode cX7_toLowest 69 = .ok (.ldc2_w 99, 3) := by decide +kernel
theorem dX7_toLowest_72 : decode cX7_toLowest 72 = .ok (.ldiv, 1) := by decide +kernel
theorem dX7_toLowest_73 : decode cX7_toLowest 73 = .ok (.lastore, 1) := by decide +kernel
theorem dX7_toLowest_74 : decode cX7_toLowest 74 = .ok (.aload_n 0, 1) := by decide +kernel
theorem dX7_toLowest_75 : decode cX7_toLowest 75 = .ok (.iconst 2, 1) := by decide +kernel
theorem dX7_toLowest_76 : decode cX7_toLowest 76 = .ok (.dup2, 1) := by decide +kernel
theorem dX7_toLowest_77 : decode cX7_toLowest 77 = .ok (.laload, 1) := by decide +kernel
theorem dX7_toLowest_78 : decode cX7_toLowest 78 = .ok (.ldc2_w 99, 3) := by decide +kernel
theorem dX7_toLowest_81 : decode cX7_toLowest 81 = .ok (.ldiv, 1) := by decide +kernel
theorem dX7_toLowest_82 : decode cX7_toLowest 82 = .ok (.lastore, 1) := by decide +kernel
theorem dX7_toLowest_83 : decode cX7_toLowest 83 = .ok (.aload_n 0, 1) := by decide +kernel
theorem dX7_toLowest_84 : decode cX7_toLowest 84 = .ok (.iconst 3, 1) := by decide +kernel
theorem dX7_toLowest_85 : decode cX7_toLowest 85 = .ok (.dup2, 1) := by decide +kernel
theorem dX7_toLowest_86 : decode cX7_toLowest 86 = .ok (.laload, 1) := by decide +kernel
theorem dX7_toLowest_87 : decode cX7_toLowest 87 = .ok (.ldc2_w 99, 3) := by decide +kernel
theorem dX7_toLowest_90 : decode cX7_toLowest 90 = .ok (.ldiv, 1) := by decide +kernel
theorem dX7_toLowest_91 : decode cX7_toLowest 91 = .ok (.lastore, 1) := by decide +kernel
theorem dX7_toLowest_92 : decode cX7_toLowest 92 = .ok (.aload_n 0, 1) := by decide +kernel
theorem dX7_toLowest_93 : decode cX7_toLowest 93 = .ok (.iconst 4, 1) := by decide +kernel
theorem dX7_toLowest_94 : decode cX7_toLowest 94 = .ok (.dup2, 1) := by decide +kernel
theorem dX7_toLowest_95 : decode cX7_toLowest 95 = .ok (.laload, 1) := by decide +kernel
theorem dX7_toLowest_96 : decode cX7_toLowest 96 = .ok (.lconst 1, 1) := by decide +kernel
theorem dX7_toLowest_97 : decode cX7_toLowest 97 = .ok (.lsub, 1) := by decide +kernel
theorem dX7_toLowest_98 : decode cX7_toLowest 98 = .ok (.lastore, 1) := by decide +kernel
theorem dX7_toLowest_99 : decode cX7_toLowest 99 = .ok (.goto (-99), 3) := by decide +kernel
theorem dX7_toLowest_102 : decode cX7_toLowest 102 = .ok (.return_, 1) := by decide +kernel
theorem dX7_scales_0 : decode cX7_scales 0 = .ok (.aload_n 0, 1) := by decide +kernel
theorem dX7_scales_1 : decode cX7_scales 1 = .ok (.iconst 0, 1) := by decide +kernel
theorem dX7_scales_2 : decode cX7_scales 2 = .ok (.dup2, 1) := by decide +kernel
theorem dX7_scales_3 : decode cX7_scales 3 = .ok (.laload, 1) := by decide +kernel
theorem dX7_scales_4 : decode cX7_scales 4 = .ok (.lload_n 1, 1) := by decide +kernel
theorem dX7_scales_5 : decode cX7_scales 5 = .ok (.lmul, 1) := by decide +kernel
theorem dX7_scales_6 : decode cX7_scales 6 = .ok (.lastore, 1) := by decide +kernel
theorem dX7_scales_7 : decode cX7_scales 7 = .ok (.aload_n 0, 1) := by decide +kernel
theorem dX7_scales_8 : decode cX7_scales 8 = .ok (.iconst 1, 1) := by decide +kernel
theorem dX7_scales_9 : decode cX7_scales 9 = .ok (.dup2, 1) := by decide +kernel
theorem dX7_scales_10 : decode cX7_scales 10 = .ok (.laload, 1) := by decide +kernel
theorem dX7_scales_11 : decode cX7_scales 11 = .ok (.lload_n 3, 1) := by decide +kernel
theorem dX7_scales_12 : decode cX7_scales 12 = .ok (.lmul, 1) := by decide +kernel
theorem dX7_scales_13 : decode cX7_scales 13 = .ok (.lastore, 1) := by decide +kernel
theorem dX7_scales_14 : decode cX7_scales 14 = .ok (.aload_n 0, 1) := by decide +kernel
theorem dX7_scales_15 : decode cX7_scales 15 = .ok (.iconst 2, 1) := by decide +kernel
theorem dX7_scales_16 : decode cX7_scales 16 = .ok (.dup2, 1) := by decide +kernel
theorem dX7_scales_17 : decode cX7_scales 17 = .ok (.laload, 1) := by decide +kernel
theorem dX7_scales_18 : decode cX7_scales 18 = .ok (.lload_n 3, 1) := by decide +kernel
theorem dX7_scales_19 : decode cX7_scales 19 = .ok (.lmul, 1) := by decide +kernel
theorem dX7_scales_20 : decode cX7_scales 20 = .ok (.lastore, 1) := by decide +kernel
theorem dX7_scales_21 : decode cX7_scales 21 = .ok (.aload_n 0, 1) := by decide +kernel
theorem dX7_scales_22 : decode cX7_scales 22 = .ok (.iconst 3, 1) := by decide +kernel
theorem dX7_scales_23 : decode cX7_scales 23 = .ok (.dup2, 1) := by decide +kernel
theorem dX7_scales_24 : decode cX7_scales 24 = .ok (.laload, 1) := by decide +kernel
theorem dX7_scales_25 : decode cX7_scales 25 = .ok (.lload_n 3, 1) := by decide +kernel
theorem dX7_scales_26 : decode cX7_scales 26 = .ok (.lmul, 1) := by decide +kernel
theorem dX7_scales_27 : decode cX7_scales 27 = .ok (.lastore, 1) := by decide +kernel
theorem dX7_scales_28 : decode cX7_scales 28 = .ok (.aload_n 0, 1) := by decide +kernel
theorem dX7_scales_29 : decode cX7_scales 29 = .ok (.iconst 4, 1) := by decide +kernel
theorem dX7_scales_30 : decode cX7_scales 30 = .ok (.dup2, 1) := by decide +kernel
theorem dX7_scales_31 : decode cX7_scales 31 = .ok (.laload, 1) := by decide +kernel
theorem dX7_scales_32 : decode cX7_scales 32 = .ok (.iload 5, 2) := by decide +kernel
theorem dX7_scales_34 : decode cX7_scales 34 = .ok (.i2l, 1) := by decide +kernel
theorem dX7_scales_35 : decode cX7_scales 35 = .ok (.ladd, 1) := by decide +kernel
theorem dX7_scales_36 : decode cX7_scales 36 = .ok (.lastore, 1) := by decide +kernel
theorem dX7_scales_37 : decode cX7_scales 37 = .ok (.return_, 1) := by decide +kernel
theorem dX7_along_0 : decode cX7_along 0 = .ok (.iload_n 0, 1) := by decide +kernel
theorem dX7_along_1 : decode cX7_along 1 = .ok (.invokestatic 101, 3) := by decide +kernel
theorem dX7_along_4 : decode cX7_along 4 = .ok (.iconst 3, 1) := by decide +kernel
theorem dX7_along_5 : decode cX7_along 5 = .ok (.if_icmp .ne 7, 3) := by decide +kernel
theorem dX7_along_8 : decode cX7_along 8 = .ok (.iconst 4, 1) := by decide +kernel
theorem dX7_along_9 : decode cX7_along 9 = .ok (.goto 9, 3) := by decide +kernel
theorem dX7_along_12 : decode cX7_along 12 = .ok (.iload_n 0, 1) := by decide +kernel
theorem dX7_along_13 : decode cX7_along 13 = .ok (.invokestatic 105, 3) := by decide +kernel
theorem dX7_along_16 : decode cX7_along 16 = .ok (.iconst 4, 1) := by decide +kernel
theorem dX7_along_17 : decode cX7_along 17 = .ok (.idiv, 1) := by decide +kernel
theorem dX7_along_18 : decode cX7_along 18 = .ok (.ireturn, 1) := by decide +kernel
theorem dX7_across_0 : decode cX7_across 0 = .ok (.iload_n 0, 1) := by decide +kernel
theorem dX7_across_1 : decode cX7_across 1 = .ok (.invokestatic 101, 3) := by decide +kernel
theorem dX7_across_4 : decode cX7_across 4 = .ok (.iconst 3, 1) := by decide +kernel
theorem dX7_across_5 : decode cX7_across 5 = .ok (.if_icmp .ne 7, 3) := by decide +kernel
theorem dX7_across_8 : decode cX7_across 8 = .ok (.iconst 0, 1) := by decide +kernel
theorem dX7_across_9 : decode cX7_across 9 = .ok (.goto 9, 3) := by decide +kernel
theorem dX7_across_12 : decode cX7_across 12 = .ok (.iload_n 0, 1) := by decide +kernel
theorem dX7_across_13 : decode cX7_across 13 = .ok (.invokestatic 105, 3) := by decide +kernel
theorem dX7_across_16 : decode cX7_across 16 = .ok (.iconst 4, 1) := by decide +kernel
theorem dX7_across_17 : decode cX7_across 17 = .ok (.irem, 1) := by decide +kernel
theorem dX7_across_18 : decode cX7_across 18 = .ok (.ireturn, 1) := by decide +kernel
theorem dX7_sheet_0 : decode cX7_sheet 0 = .ok (.iload_n 1, 1) := by decide +kernel
theorem dX7_sheet_1 : decode cX7_sheet 1 = .ok (.invokestatic 108, 3) := by decide +kernel
theorem dX7_sheet_4 : decode cX7_sheet 4 = .ok (.i2l, 1) := by decide +kernel
theorem dX7_sheet_5 : decode cX7_sheet 5 = .ok (.lstore_n 2, 1) := by decide +kernel
theorem dX7_sheet_6 : decode cX7_sheet 6 = .ok (.iload_n 1, 1) := by decide +kernel
theorem dX7_sheet_7 : decode cX7_sheet 7 = .ok (.invokestatic 111, 3) := by decide +kernel
theorem dX7_sheet_10 : decode cX7_sheet 10 = .ok (.i2l, 1) := by decide +kernel
theorem dX7_sheet_11 : decode cX7_sheet 11 = .ok (.lstore 4, 2) := by decide +kernel
theorem dX7_sheet_13 : decode cX7_sheet 13 = .ok (.iload_n 1, 1) := by decide +kernel
theorem dX7_sheet_14 : decode cX7_sheet 14 = .ok (.invokestatic 114, 3) := by decide +kernel
theorem dX7_sheet_17 : decode cX7_sheet 17 = .ok (.istore 6, 2) := by decide +kernel
theorem dX7_sheet_19 : decode cX7_sheet 19 = .ok (.iload 6, 2) := by decide +kernel
theorem dX7_sheet_21 : decode cX7_sheet 21 = .ok (.iconst 2, 1) := by decide +kernel
theorem dX7_sheet_22 : decode cX7_sheet 22 = .ok (.irem, 1) := by decide +kernel
theorem dX7_sheet_23 : decode cX7_sheet 23 = .ok (.ifCond .ne 7, 3) := by decide +kernel
theorem dX7_sheet_26 : decode cX7_sheet 26 = .ok (.iconst 1, 1) := by decide +kernel
theorem dX7_sheet_27 : decode cX7_sheet 27 = .ok (.goto 4, 3) := by decide +kernel
theorem dX7_sheet_30 : decode cX7_sheet 30 = .ok (.iconst 2, 1) := by decide +kernel
theorem dX7_sheet_31 : decode cX7_sheet 31 = .ok (.istore 7, 2) := by decide +kernel
theorem dX7_sheet_33 : decode cX7_sheet 33 = .ok (.iconst 3, 1) := by decide +kernel
theorem dX7_sheet_34 : decode cX7_sheet 34 = .ok (.iload 7, 2) := by decide +kernel
theorem dX7_sheet_36 : decode cX7_sheet 36 = .ok (.isub, 1) := by decide +kernel
theorem dX7_sheet_37 : decode cX7_sheet 37 = .ok (.istore 8, 2) := by decide +kernel
theorem dX7_sheet_39 : decode cX7_sheet 39 = .ok (.iload 6, 2) := by decide +kernel
theorem dX7_sheet_41 : decode cX7_sheet 41 = .ok (.iconst 2, 1) := by decide +kernel
theorem dX7_sheet_42 : decode cX7_sheet 42 = .ok (.if_icmp .ge 7, 3) := by decide +kernel
theorem dX7_sheet_45 : decode cX7_sheet 45 = .ok (.lconst 1, 1) := by decide +kernel
theorem dX7_sheet_46 : decode cX7_sheet 46 = .ok (.goto 6, 3) := by decide +kernel
theorem dX7_sheet_49 : decode cX7_sheet 49 = .ok (.ldc2_w 117, 3) := by decide +kernel
theorem dX7_sheet_52 : decode cX7_sheet 52 = .ok (.lstore 9, 2) := by decide +kernel
theorem dX7_sheet_54 : decode cX7_sheet 54 = .ok (.aload_n 0, 1) := by decide +kernel
theorem dX7_sheet_55 : decode cX7_sheet 55 = .ok (.iconst 0, 1) := by decide +kernel
theorem dX7_sheet_56 : decode cX7_sheet 56 = .ok (.laload, 1) := by decide +kernel
theorem dX7_sheet_57 : decode cX7_sheet 57 = .ok (.lstore 11, 2) := by decide +kernel
theorem dX7_sheet_59 : decode cX7_sheet 59 = .ok (.lload 9, 2) := by decide +kernel
theorem dX7_sheet_61 : decode cX7_sheet 61 = .ok (.aload_n 0, 1) := by decide +kernel
theorem dX7_sheet_62 : decode cX7_sheet 62 = .ok (.iload 7, 2) := by decide +kernel
theorem dX7_sheet_64 : decode cX7_sheet 64 = .ok (.laload, 1) := by decide +kernel
theorem dX7_sheet_65 : decode cX7_sheet 65 = .ok (.lmul, 1) := by decide +kernel
theorem dX7_sheet_66 : decode cX7_sheet 66 = .ok (.lstore 13, 2) := by decide +kernel
theorem dX7_sheet_68 : decode cX7_sheet 68 = .ok (.aload_n 0, 1) := by decide +kernel
theorem dX7_sheet_69 : decode cX7_sheet 69 = .ok (.iconst 0, 1) := by decide +kernel
theorem dX7_sheet_70 : decode cX7_sheet 70 = .ok (.lload_n 2, 1) := by decide +kernel
theorem dX7_sheet_71 : decode cX7_sheet 71 = .ok (.lload_n 2, 1) := by decide +kernel
theorem dX7_sheet_72 : decode cX7_sheet 72 = .ok (.lmul, 1) := by decide +kernel
theorem dX7_sheet_73 : decode cX7_sheet 73 = .ok (.lload 4, 2) := by decide +kernel
theorem dX7_sheet_75 : decode cX7_sheet 75 = .ok (.lload 4, 2) := by decide +kernel
theorem dX7_sheet_77 : decode cX7_sheet 77 = .ok (.lmul, 1) := by decide +kernel
theorem dX7_sheet_78 : decode cX7_sheet 78 = .ok (.ladd, 1) := by decide +kernel
theorem dX7_sheet_79 : decode cX7_sheet 79 = .ok (.lload 11, 2) := by decide +kernel
theorem dX7_sheet_81 : decode cX7_sheet 81 = .ok (.lmul, 1) := by decide +kernel
theorem dX7_sheet_82 : decode cX7_sheet 82 = .ok (.lload_n 2, 1) := by decide +kernel
theorem dX7_sheet_83 : decode cX7_sheet 83 = .ok (.lload_n 2, 1) := by decide +kernel
theorem dX7_sheet_84 : decode cX7_sheet 84 = .ok (.lmul, 1) := by decide +kernel
theorem dX7_sheet_85 : decode cX7_sheet 85 = .ok (.lload 4, 2) := by decide +kernel
theorem dX7_sheet_87 : decode cX7_sheet 87 = .ok (.lload 4, 2) := by decide +kernel
theorem dX7_sheet_89 : decode cX7_sheet 89 = .ok (.lmul, 1) := by decide +kernel
theorem dX7_sheet_90 : decode cX7_sheet 90 = .ok (.lsub, 1) := by decide +kernel
theorem dX7_sheet_91 : decode cX7_sheet 91 = .ok (.lload 13, 2) := by decide +kernel
theorem dX7_sheet_93 : decode cX7_sheet 93 = .ok (.lmul, 1) := by decide +kernel
theorem dX7_sheet_94 : decode cX7_sheet 94 = .ok (.ladd, 1) := by decide +kernel
theorem dX7_sheet_95 : decode cX7_sheet 95 = .ok (.lastore, 1) := by decide +kernel
theorem dX7_sheet_96 : decode cX7_sheet 96 = .ok (.aload_n 0, 1) := by decide +kernel
theorem dX7_sheet_97 : decode cX7_sheet 97 = .ok (.iload 7, 2) := by decide +kernel
theorem dX7_sheet_99 : decode cX7_sheet 99 = .ok (.lload 9, 2) := by decide +kernel
theorem dX7_sheet_101 : decode cX7_sheet 101 = .ok (.lload_n 2, 1) := by decide +kernel
theorem dX7_sheet_102 : decode cX7_sheet 102 = .ok (.lload_n 2, 1) := by decide +kernel
theorem dX7_sheet_103 : decode cX7_sheet 103 = .ok (.lmul, 1) := by decide +kernel
theorem dX7_sheet_104 : decode cX7_sheet 104 = .ok (.lload 4, 2) := by decide +kernel
theorem dX7_sheet_106 : decode cX7_sheet 106 = .ok (.lload 4, 2) := by decide +kernel
theorem dX7_sheet_108 : decode cX7_sheet 108 = .ok (.lmul, 1) := by decide +kernel
theorem dX7_sheet_109 : decode cX7_sheet 109 = .ok (.lsub, 1) := by decide +kernel
theorem dX7_sheet_110 : decode cX7_sheet 110 = .ok (.lload 11, 2) := by decide +kernel
theorem dX7_sheet_112 : decode cX7_sheet 112 = .ok (.lmul, 1) := by decide +kernel
theorem dX7_sheet_113 : decode cX7_sheet 113 = .ok (.lload_n 2, 1) := by decide +kernel
theorem dX7_sheet_114 : decode cX7_sheet 114 = .ok (.lload_n 2, 1) := by decide +kernel
theorem dX7_sheet_115 : decode cX7_sheet 115 = .ok (.lmul, 1) := by decide +kernel
theorem dX7_sheet_116 : decode cX7_sheet 116 = .ok (.lload 4, 2) := by decide +kernel
theorem dX7_sheet_118 : decode cX7_sheet 118 = .ok (.lload 4, 2) := by decide +kernel
theorem dX7_sheet_120 : decode cX7_sheet 120 = .ok (.lmul, 1) := by decide +kernel
theorem dX7_sheet_121 : decode cX7_sheet 121 = .ok (.ladd, 1) := by decide +kernel
theorem dX7_sheet_122 : decode cX7_sheet 122 = .ok (.lload 13, 2) := by decide +kernel
theorem dX7_sheet_124 : decode cX7_sheet 124 = .ok (.lmul, 1) := by decide +kernel
theorem dX7_sheet_125 : decode cX7_sheet 125 = .ok (.ladd, 1) := by decide +kernel
theorem dX7_sheet_126 : decode cX7_sheet 126 = .ok (.lmul, 1) := by decide +kernel
theorem dX7_sheet_127 : decode cX7_sheet 127 = .ok (.lastore, 1) := by decide +kernel
theorem dX7_sheet_128 : decode cX7_sheet 128 = .ok (.aload_n 0, 1) := by decide +kernel
theorem dX7_sheet_129 : decode cX7_sheet 129 = .ok (.iload 8, 2) := by decide +kernel
theorem dX7_sheet_131 : decode cX7_sheet 131 = .ok (.dup2, 1) := by decide +kernel
theorem dX7_sheet_132 : decode cX7_sheet 132 = .ok (.laload, 1) := by decide +kernel
theorem dX7_sheet_133 : decode cX7_sheet 133 = .ok (.ldc2_w 99, 3) := by decide +kernel
theorem dX7_sheet_136 : decode cX7_sheet 136 = .ok (.lload_n 2, 1) := by decide +kernel
theorem dX7_sheet_137 : decode cX7_sheet 137 = .ok (.lmul, 1) := by decide +kernel
theorem dX7_sheet_138 : decode cX7_sheet 138 = .ok (.lload 4, 2) := by decide +kernel
theorem dX7_sheet_140 : decode cX7_sheet 140 = .ok (.lmul, 1) := by decide +kernel
theorem dX7_sheet_141 : decode cX7_sheet 141 = .ok (.lmul, 1) := by decide +kernel
theorem dX7_sheet_142 : decode cX7_sheet 142 = .ok (.lastore, 1) := by decide +kernel
theorem dX7_sheet_143 : decode cX7_sheet 143 = .ok (.aload_n 0, 1) := by decide +kernel
theorem dX7_sheet_144 : decode cX7_sheet 144 = .ok (.iconst 3, 1) := by decide +kernel
theorem dX7_sheet_145 : decode cX7_sheet 145 = .ok (.dup2, 1) := by decide +kernel
theorem dX7_sheet_146 : decode cX7_sheet 146 = .ok (.laload, 1) := by decide +kernel
theorem dX7_sheet_147 : decode cX7_sheet 147 = .ok (.ldc2_w 99, 3) := by decide +kernel
theorem dX7_sheet_150 : decode cX7_sheet 150 = .ok (.lload_n 2, 1) := by decide +kernel
theorem dX7_sheet_151 : decode cX7_sheet 151 = .ok (.lmul, 1) := by decide +kernel
theorem dX7_sheet_152 : decode cX7_sheet 152 = .ok (.lload 4, 2) := by decide +kernel
theorem dX7_sheet_154 : decode cX7_sheet 154 = .ok (.lmul, 1) := by decide +kernel
theorem dX7_sheet_155 : decode cX7_sheet 155 = .ok (.lmul, 1) := by decide +kernel
theorem dX7_sheet_156 : decode cX7_sheet 156 = .ok (.lastore, 1) := by decide +kernel
theorem dX7_sheet_157 : decode cX7_sheet 157 = .ok (.aload_n 0, 1) := by decide +kernel
theorem dX7_sheet_158 : decode cX7_sheet 158 = .ok (.iconst 4, 1) := by decide +kernel
theorem dX7_sheet_159 : decode cX7_sheet 159 = .ok (.dup2, 1) := by decide +kernel
theorem dX7_sheet_160 : decode cX7_sheet 160 = .ok (.laload, 1) := by decide +kernel
theorem dX7_sheet_161 : decode cX7_sheet 161 = .ok (.ldc2_w 119, 3) := by decide +kernel
theorem dX7_sheet_164 : decode cX7_sheet 164 = .ok (.ladd, 1) := by decide +kernel
theorem dX7_sheet_165 : decode cX7_sheet 165 = .ok (.lastore, 1) := by decide +kernel
theorem dX7_sheet_166 : decode cX7_sheet 166 = .ok (.return_, 1) := by decide +kernel
theorem dX7_quarter_0 : decode cX7_quarter 0 = .ok (.aload_n 0, 1) := by decide +kernel
theorem dX7_quarter_1 : decode cX7_quarter 1 = .ok (.iconst 1, 1) := by decide +kernel
theorem dX7_quarter_2 : decode cX7_quarter 2 = .ok (.laload, 1) := by decide +kernel
theorem dX7_quarter_3 : decode cX7_quarter 3 = .ok (.lstore_n 2, 1) := by decide +kernel
theorem dX7_quarter_4 : decode cX7_quarter 4 = .ok (.aload_n 0, 1) := by decide +kernel
theorem dX7_quarter_5 : decode cX7_quarter 5 = .ok (.iconst 2, 1) := by decide +kernel
theorem dX7_quarter_6 : decode cX7_quarter 6 = .ok (.laload, 1) := by decide +kernel
theorem dX7_quarter_7 : decode cX7_quarter 7 = .ok (.lstore 4, 2) := by decide +kernel
theorem dX7_quarter_9 : decode cX7_quarter 9 = .ok (.aload_n 0, 1) := by decide +kernel
theorem dX7_quarter_10 : decode cX7_quarter 10 = .ok (.iconst 3, 1) := by decide +kernel
theorem dX7_quarter_11 : decode cX7_quarter 11 = .ok (.laload, 1) := by decide +kernel
theorem dX7_quarter_12 : decode cX7_quarter 12 = .ok (.lstore 6, 2) := by decide +kernel
theorem dX7_quarter_14 : decode cX7_quarter 14 = .ok (.iload_n 1, 1) := by decide +kernel
theorem dX7_quarter_15 : decode cX7_quarter 15 = .ok (.invokestatic 101, 3) := by decide +kernel
theorem dX7_quarter_18 : decode cX7_quarter 18 = .ok (.iconst 5, 1) := by decide +kernel
theorem dX7_quarter_19 : decode cX7_quarter 19 = .ok (.if_icmp .ne 14, 3) := by decide +kernel
theorem dX7_quarter_22 : decode cX7_quarter 22 = .ok (.aload_n 0, 1) := by decide +kernel
theorem dX7_quarter_23 : decode cX7_quarter 23 = .ok (.iconst 1, 1) := by decide +kernel
theorem dX7_quarter_24 : decode cX7_quarter 24 = .ok (.lload 4, 2) := by decide +kernel
theorem dX7_quarter_26 : decode cX7_quarter 26 = .ok (.lneg, 1) := by decide +kernel
theorem dX7_quarter_27 : decode cX7_quarter 27 = .ok (.lastore, 1) := by decide +kernel
theorem dX7_quarter_28 : decode cX7_quarter 28 = .ok (.aload_n 0, 1) := by decide +kernel
theorem dX7_quarter_29 : decode cX7_quarter 29 = .ok (.iconst 2, 1) := by decide +kernel
theorem dX7_quarter_30 : decode cX7_quarter 30 = .ok (.lload_n 2, 1) := by decide +kernel
theorem dX7_quarter_31 : decode cX7_quarter 31 = .ok (.lastore, 1) := by decide +kernel
theorem dX7_quarter_32 : decode cX7_quarter 32 = .ok (.return_, 1) := by decide +kernel
theorem dX7_quarter_33 : decode cX7_quarter 33 = .ok (.iload_n 1, 1) := by decide +kernel
theorem dX7_quarter_34 : decode cX7_quarter 34 = .ok (.invokestatic 114, 3) := by decide +kernel
theorem dX7_quarter_37 : decode cX7_quarter 37 = .ok (.tableswitch 68 0 2 #[27, 41, 54], 27) := by decide +kernel
theorem dX7_quarter_64 : decode cX7_quarter 64 = .ok (.aload_n 0, 1) := by decide +kernel
theorem dX7_quarter_65 : decode cX7_quarter 65 = .ok (.iconst 2, 1) := by decide +kernel
theorem dX7_quarter_66 : decode cX7_quarter 66 = .ok (.lload 6, 2) := by decide +kernel
theorem dX7_quarter_68 : decode cX7_quarter 68 = .ok (.lastore, 1) := by decide +kernel
theorem dX7_quarter_69 : decode cX7_quarter 69 = .ok (.aload_n 0, 1) := by decide +kernel
theorem dX7_quarter_70 : decode cX7_quarter 70 = .ok (.iconst 3, 1) := by decide +kernel
theorem dX7_quarter_71 : decode cX7_quarter 71 = .ok (.lload 4, 2) := by decide +kernel
theorem dX7_quarter_73 : decode cX7_quarter 73 = .ok (.lneg, 1) := by decide +kernel
theorem dX7_quarter_74 : decode cX7_quarter 74 = .ok (.lastore, 1) := by decide +kernel
theorem dX7_quarter_75 : decode cX7_quarter 75 = .ok (.goto 40, 3) := by decide +kernel
theorem dX7_quarter_78 : decode cX7_quarter 78 = .ok (.aload_n 0, 1) := by decide +kernel
theorem dX7_quarter_79 : decode cX7_quarter 79 = .ok (.iconst 3, 1) := by decide +kernel
theorem dX7_quarter_80 : decode cX7_quarter 80 = .ok (.lload_n 2, 1) := by decide +kernel
theorem dX7_quarter_81 : decode cX7_quarter 81 = .ok (.lastore, 1) := by decide +kernel
theorem dX7_quarter_82 : decode cX7_quarter 82 = .ok (.aload_n 0, 1) := by decide +kernel
theorem dX7_quarter_83 : decode cX7_quarter 83 = .ok (.iconst 1, 1) := by decide +kernel
theorem dX7_quarter_84 : decode cX7_quarter 84 = .ok (.lload 6, 2) := by decide +kernel
theorem dX7_quarter_86 : decode cX7_quarter 86 = .ok (.lneg, 1) := by decide +kernel
theorem dX7_quarter_87 : decode cX7_quarter 87 = .ok (.lastore, 1) := by decide +kernel
theorem dX7_quarter_88 : decode cX7_quarter 88 = .ok (.goto 27, 3) := by decide +kernel
theorem dX7_quarter_91 : decode cX7_quarter 91 = .ok (.aload_n 0, 1) := by decide +kernel
theorem dX7_quarter_92 : decode cX7_quarter 92 = .ok (.iconst 2, 1) := by decide +kernel
theorem dX7_quarter_93 : decode cX7_quarter 93 = .ok (.lload 6, 2) := by decide +kernel
theorem dX7_quarter_95 : decode cX7_quarter 95 = .ok (.lneg, 1) := by decide +kernel
theorem dX7_quarter_96 : decode cX7_quarter 96 = .ok (.lastore, 1) := by decide +kernel
theorem dX7_quarter_97 : decode cX7_quarter 97 = .ok (.aload_n 0, 1) := by decide +kernel
theorem dX7_quarter_98 : decode cX7_quarter 98 = .ok (.iconst 3, 1) := by decide +kernel
theorem dX7_quarter_99 : decode cX7_quarter 99 = .ok (.lload 4, 2) := by decide +kernel
theorem dX7_quarter_101 : decode cX7_quarter 101 = .ok (.lastore, 1) := by decide +kernel
theorem dX7_quarter_102 : decode cX7_quarter 102 = .ok (.goto 13, 3) := by decide +kernel
theorem dX7_quarter_105 : decode cX7_quarter 105 = .ok (.aload_n 0, 1) := by decide +kernel
theorem dX7_quarter_106 : decode cX7_quarter 106 = .ok (.iconst 3, 1) := by decide +kernel
theorem dX7_quarter_107 : decode cX7_quarter 107 = .ok (.lload_n 2, 1) := by decide +kernel
theorem dX7_quarter_108 : decode cX7_quarter 108 = .ok (.lneg, 1) := by decide +kernel
theorem dX7_quarter_109 : decode cX7_quarter 109 = .ok (.lastore, 1) := by decide +kernel
theorem dX7_quarter_110 : decode cX7_quarter 110 = .ok (.aload_n 0, 1) := by decide +kernel
theorem dX7_quarter_111 : decode cX7_quarter 111 = .ok (.iconst 1, 1) := by decide +kernel
theorem dX7_quarter_112 : decode cX7_quarter 112 = .ok (.lload 6, 2) := by decide +kernel
theorem dX7_quarter_114 : decode cX7_quarter 114 = .ok (.lastore, 1) := by decide +kernel
theorem dX7_quarter_115 : decode cX7_quarter 115 = .ok (.return_, 1) := by decide +kernel
theorem dX7_quarters_0 : decode cX7_quarters 0 = .ok (.iconst 0, 1) := by decide +kernel
theorem dX7_quarters_1 : decode cX7_quarters 1 = .ok (.istore_n 3, 1) := by decide +kernel
theorem dX7_quarters_2 : decode cX7_quarters 2 = .ok (.iload_n 3, 1) := by decide +kernel
theorem dX7_quarters_3 : decode cX7_quarters 3 = .ok (.iload_n 2, 1) := by decide +kernel
theorem dX7_quarters_4 : decode cX7_quarters 4 = .ok (.if_icmp .ge 14, 3) := by decide +kernel
theorem dX7_quarters_7 : decode cX7_quarters 7 = .ok (.aload_n 0, 1) := by decide +kernel
theorem dX7_quarters_8 : decode cX7_quarters 8 = .ok (.iload_n 1, 1) := by decide +kernel
theorem dX7_quarters_9 : decode cX7_quarters 9 = .ok (.invokestatic 121, 3) := by decide +kernel
theorem dX7_quarters_12 : decode cX7_quarters 12 = .ok (.iinc 3 1, 3) := by decide +kernel
theorem dX7_quarters_15 : decode cX7_quarters 15 = .ok (.goto (-13), 3) := by decide +kernel
theorem dX7_quarters_18 : decode cX7_quarters 18 = .ok (.return_, 1) := by decide +kernel
theorem dX7_goes_0 : decode cX7_goes 0 = .ok (.iload_n 1, 1) := by decide +kernel
theorem dX7_goes_1 : decode cX7_goes 1 = .ok (.invokestatic 105, 3) := by decide +kernel
theorem dX7_goes_4 : decode cX7_goes 4 = .ok (.istore_n 2, 1) := by decide +kernel
theorem dX7_goes_5 : decode cX7_goes 5 = .ok (.iload_n 1, 1) := by decide +kernel
theorem dX7_goes_6 : decode cX7_goes 6 = .ok (.invokestatic 101, 3) := by decide +kernel
theorem dX7_goes_9 : decode cX7_goes 9 = .ok (.tableswitch 79 0 6 #[43, 46, 58, 58, 79, 79, 66], 43) := by decide +kernel
theorem dX7_goes_52 : decode cX7_goes 52 = .ok (.goto 44, 3) := by decide +kernel
theorem dX7_goes_55 : decode cX7_goes 55 = .ok (.aload_n 0, 1) := by decide +kernel
theorem dX7_goes_56 : decode cX7_goes 56 = .ok (.iload_n 2, 1) := by decide +kernel
theorem dX7_goes_57 : decode cX7_goes 57 = .ok (.i2l, 1) := by decide +kernel
theorem dX7_goes_58 : decode cX7_goes 58 = .ok (.iload_n 2, 1) := by decide +kernel
theorem dX7_goes_59 : decode cX7_goes 59 = .ok (.i2l, 1) := by decide +kernel
theorem dX7_goes_60 : decode cX7_goes 60 = .ok (.iconst 4, 1) := by decide +kernel
theorem dX7_goes_61 : decode cX7_goes 61 = .ok (.invokestatic 125, 3) := by decide +kernel
theorem dX7_goes_64 : decode cX7_goes 64 = .ok (.goto 32, 3) := by decide +kernel
theorem dX7_goes_67 : decode cX7_goes 67 = .ok (.aload_n 0, 1) := by decide +kernel
theorem dX7_goes_68 : decode cX7_goes 68 = .ok (.iload_n 1, 1) := by decide +kernel
theorem dX7_goes_69 : decode cX7_goes 69 = .ok (.invokestatic 129, 3) := by decide +kernel
theorem dX7_goes_72 : decode cX7_goes 72 = .ok (.goto 24, 3) := by decide +kernel
theorem dX7_goes_75 : decode cX7_goes 75 = .ok (.aload_n 0, 1) := by decide +kernel
theorem dX7_goes_76 : decode cX7_goes 76 = .ok (.ldc2_w 9, 3) := by decide +kernel
theorem dX7_goes_79 : decode cX7_goes 79 = .ok (.iload_n 2, 1) := by decide +kernel
theorem dX7_goes_80 : decode cX7_goes 80 = .ok (.i2l, 1) := by decide +kernel
theorem dX7_goes_81 : decode cX7_goes 81 = .ok (.iconst 4, 1) := by decide +kernel
theorem dX7_goes_82 : decode cX7_goes 82 = .ok (.invokestatic 125, 3) := by decide +kernel
theorem dX7_goes_85 : decode cX7_goes 85 = .ok (.goto 11, 3) := by decide +kernel
theorem dX7_goes_88 : decode cX7_goes 88 = .ok (.aload_n 0, 1) := by decide +kernel
theorem dX7_goes_89 : decode cX7_goes 89 = .ok (.iload_n 1, 1) := by decide +kernel
theorem dX7_goes_90 : decode cX7_goes 90 = .ok (.iload_n 2, 1) := by decide +kernel
theorem dX7_goes_91 : decode cX7_goes 91 = .ok (.iconst 4, 1) := by decide +kernel
theorem dX7_goes_92 : decode cX7_goes 92 = .ok (.irem, 1) := by decide +kernel
theorem dX7_goes_93 : decode cX7_goes 93 = .ok (.invokestatic 132, 3) := by decide +kernel
theorem dX7_goes_96 : decode cX7_goes 96 = .ok (.aload_n 0, 1) := by decide +kernel
theorem dX7_goes_97 : decode cX7_goes 97 = .ok (.invokestatic 136, 3) := by decide +kernel
theorem dX7_goes_100 : decode cX7_goes 100 = .ok (.return_, 1) := by decide +kernel
theorem dX7_begins_0 : decode cX7_begins 0 = .ok (.aload_n 1, 1) := by decide +kernel
theorem dX7_begins_1 : decode cX7_begins 1 = .ok (.iconst 0, 1) := by decide +kernel
theorem dX7_begins_2 : decode cX7_begins 2 = .ok (.aload_n 0, 1) := by decide +kernel
theorem dX7_begins_3 : decode cX7_begins 3 = .ok (.getfield 21, 3) := by decide +kernel
theorem dX7_begins_6 : decode cX7_begins 6 = .ok (.iconst 0, 1) := by decide +kernel
theorem dX7_begins_7 : decode cX7_begins 7 = .ok (.iconst 5, 1) := by decide +kernel
theorem dX7_begins_8 : decode cX7_begins 8 = .ok (.invokestatic 140, 3) := by decide +kernel
theorem dX7_begins_11 : decode cX7_begins 11 = .ok (.return_, 1) := by decide +kernel
theorem dX7_behind_0 : decode cX7_behind 0 = .ok (.aload_n 0, 1) := by decide +kernel
theorem dX7_behind_1 : decode cX7_behind 1 = .ok (.aload_n 0, 1) := by decide +kernel
theorem dX7_behind_2 : decode cX7_behind 2 = .ok (.getfield 11, 3) := by decide +kernel
theorem dX7_behind_5 : decode cX7_behind 5 = .ok (.invokevirtual 146, 3) := by decide +kernel
theorem dX7_behind_8 : decode cX7_behind 8 = .ok (.iconst 0, 1) := by decide +kernel
theorem dX7_behind_9 : decode cX7_behind 9 = .ok (.istore_n 2, 1) := by decide +kernel
theorem dX7_behind_10 : decode cX7_behind 10 = .ok (.iload_n 2, 1) := by decide +kernel
theorem dX7_behind_11 : decode cX7_behind 11 = .ok (.iload_n 1, 1) := by decide +kernel
theorem dX7_behind_12 : decode cX7_behind 12 = .ok (.if_icmp .ge 22, 3) := by decide +kernel
theorem dX7_behind_15 : decode cX7_behind 15 = .ok (.aload_n 0, 1) := by decide +kernel
theorem dX7_behind_16 : decode cX7_behind 16 = .ok (.getfield 21, 3) := by decide +kernel
theorem dX7_behind_19 : decode cX7_behind 19 = .ok (.aload_n 0, 1) := by decide +kernel
theorem dX7_behind_20 : decode cX7_behind 20 = .ok (.getfield 17, 3) := by decide +kernel
theorem dX7_behind_23 : decode cX7_behind 23 = .ok (.iload_n 2, 1) := by decide +kernel
theorem dX7_behind_24 : decode cX7_behind 24 = .ok (.iaload, 1) := by decide +kernel
theorem dX7_behind_25 : decode cX7_behind 25 = .ok (.invokestatic 149, 3) := by decide +kernel
theorem dX7_behind_28 : decode cX7_behind 28 = .ok (.iinc 2 1, 3) := by decide +kernel
theorem dX7_behind_31 : decode cX7_behind 31 = .ok (.goto (-21), 3) := by decide +kernel
theorem dX7_behind_34 : decode cX7_behind 34 = .ok (.return_, 1) := by decide +kernel
theorem dX7_lamp_0 : decode cX7_lamp 0 = .ok (.iload_n 1, 1) := by decide +kernel
theorem dX7_lamp_1 : decode cX7_lamp 1 = .ok (.i2l, 1) := by decide +kernel
theorem dX7_lamp_2 : decode cX7_lamp 2 = .ok (.lconst 0, 1) := by decide +kernel
theorem dX7_lamp_3 : decode cX7_lamp 3 = .ok (.ldc2_w 152, 3) := by decide +kernel
theorem dX7_lamp_6 : decode cX7_lamp 6 = .ok (.invokestatic 95, 3) := by decide +kernel
theorem dX7_lamp_9 : decode cX7_lamp 9 = .ok (.ifCond .eq 18, 3) := by decide +kernel
theorem dX7_lamp_12 : decode cX7_lamp 12 = .ok (.iload_n 1, 1) := by decide +kernel
theorem dX7_lamp_13 : decode cX7_lamp 13 = .ok (.i2l, 1) := by decide +kernel
theorem dX7_lamp_14 : decode cX7_lamp 14 = .ok (.iload_n 2, 1) := by decide +kernel
theorem dX7_lamp_15 : decode cX7_lamp 15 = .ok (.i2l, 1) := by decide +kernel
theorem dX7_lamp_16 : decode cX7_lamp 16 = .ok (.iload_n 3, 1) := by decide +kernel
theorem dX7_lamp_17 : decode cX7_lamp 17 = .ok (.i2l, 1) := by decide +kernel
theorem dX7_lamp_18 : decode cX7_lamp 18 = .ok (.iload 4, 2) := by decide +kernel
theorem dX7_lamp_20 : decode cX7_lamp 20 = .ok (.i2l, 1) := by decide +kernel
theorem dX7_lamp_21 : decode cX7_lamp 21 = .ok (.invokestatic 154, 3) := by decide +kernel
theorem dX7_lamp_24 : decode cX7_lamp 24 = .ok (.ifCond .ne 6, 3) := by decide +kernel
theorem dX7_lamp_27 : decode cX7_lamp 27 = .ok (.bipush (-2), 2) := by decide +kernel
theorem dX7_lamp_29 : decode cX7_lamp 29 = .ok (.ireturn, 1) := by decide +kernel
theorem dX7_lamp_30 : decode cX7_lamp 30 = .ok (.aload_n 0, 1) := by decide +kernel
theorem dX7_lamp_31 : decode cX7_lamp 31 = .ok (.getfield 11, 3) := by decide +kernel
theorem dX7_lamp_34 : decode cX7_lamp 34 = .ok (.iconst 0, 1) := by decide +kernel
theorem dX7_lamp_35 : decode cX7_lamp 35 = .ok (.iload_n 1, 1) := by decide +kernel
theorem dX7_lamp_36 : decode cX7_lamp 36 = .ok (.i2l, 1) := by decide +kernel
theorem dX7_lamp_37 : decode cX7_lamp 37 = .ok (.lastore, 1) := by decide +kernel
theorem dX7_lamp_38 : decode cX7_lamp 38 = .ok (.aload_n 0, 1) := by decide +kernel
theorem dX7_lamp_39 : decode cX7_lamp 39 = .ok (.getfield 11, 3) := by decide +kernel
theorem dX7_lamp_42 : decode cX7_lamp 42 = .ok (.iconst 1, 1) := by decide +kernel
theorem dX7_lamp_43 : decode cX7_lamp 43 = .ok (.iload_n 2, 1) := by decide +kernel
theorem dX7_lamp_44 : decode cX7_lamp 44 = .ok (.i2l, 1) := by decide +kernel
theorem dX7_lamp_45 : decode cX7_lamp 45 = .ok (.lastore, 1) := by decide +kernel
theorem dX7_lamp_46 : decode cX7_lamp 46 = .ok (.aload_n 0, 1) := by decide +kernel
theorem dX7_lamp_47 : decode cX7_lamp 47 = .ok (.getfield 11, 3) := by decide +kernel
theorem dX7_lamp_50 : decode cX7_lamp 50 = .ok (.iconst 2, 1) := by decide +kernel
theorem dX7_lamp_51 : decode cX7_lamp 51 = .ok (.iload_n 3, 1) := by decide +kernel
theorem dX7_lamp_52 : decode cX7_lamp 52 = .ok (.i2l, 1) := by decide +kernel
theorem dX7_lamp_53 : decode cX7_lamp 53 = .ok (.lastore, 1) := by decide +kernel
theorem dX7_lamp_54 : decode cX7_lamp 54 = .ok (.aload_n 0, 1) := by decide +kernel
theorem dX7_lamp_55 : decode cX7_lamp 55 = .ok (.getfield 11, 3) := by decide +kernel
theorem dX7_lamp_58 : decode cX7_lamp 58 = .ok (.iconst 3, 1) := by decide +kernel
theorem dX7_lamp_59 : decode cX7_lamp 59 = .ok (.iload 4, 2) := by decide +kernel
theorem dX7_lamp_61 : decode cX7_lamp 61 = .ok (.i2l, 1) := by decide +kernel
theorem dX7_lamp_62 : decode cX7_lamp 62 = .ok (.lastore, 1) := by decide +kernel
theorem dX7_lamp_63 : decode cX7_lamp 63 = .ok (.iconst 1, 1) := by decide +kernel
theorem dX7_lamp_64 : decode cX7_lamp 64 = .ok (.ireturn, 1) := by decide +kernel
theorem dX7_add_0 : decode cX7_add 0 = .ok (.iload_n 1, 1) := by decide +kernel
theorem dX7_add_1 : decode cX7_add 1 = .ok (.i2l, 1) := by decide +kernel
theorem dX7_add_2 : decode cX7_add 2 = .ok (.lconst 0, 1) := by decide +kernel
theorem dX7_add_3 : decode cX7_add 3 = .ok (.ldc2_w 158, 3) := by decide +kernel
theorem dX7_add_6 : decode cX7_add 6 = .ok (.invokestatic 95, 3) := by decide +kernel
theorem dX7_add_9 : decode cX7_add 9 = .ok (.ifCond .ne 5, 3) := by decide +kernel
theorem dX7_add_12 : decode cX7_add 12 = .ok (.iconst (-1), 1) := by decide +kernel
theorem dX7_add_13 : decode cX7_add 13 = .ok (.ireturn, 1) := by decide +kernel
theorem dX7_add_14 : decode cX7_add 14 = .ok (.iload_n 2, 1) := by decide +kernel
theorem dX7_add_15 : decode cX7_add 15 = .ok (.i2l, 1) := by decide +kernel
theorem dX7_add_16 : decode cX7_add 16 = .ok (.lconst 0, 1) := by decide +kernel
theorem dX7_add_17 : decode cX7_add 17 = .ok (.ldc2_w 160, 3) := by decide +kernel
theorem dX7_add_20 : decode cX7_add 20 = .ok (.invokestatic 95, 3) := by decide +kernel
theorem dX7_add_23 : decode cX7_add 23 = .ok (.ifCond .eq 15, 3) := by decide +kernel
theorem dX7_add_26 : decode cX7_add 26 = .ok (.iload_n 3, 1) := by decide +kernel
theorem dX7_add_27 : decode cX7_add 27 = .ok (.i2l, 1) := by decide +kernel
theorem dX7_add_28 : decode cX7_add 28 = .ok (.lconst 0, 1) := by decide +kernel
theorem dX7_add_29 : decode cX7_add 29 = .ok (.ldc2_w 9, 3) := by decide +kernel
theorem dX7_add_32 : decode cX7_add 32 = .ok (.invokestatic 95, 3) := by decide +kernel
theorem dX7_add_35 : decode cX7_add 35 = .ok (.ifCond .ne 6, 3) := by decide +kernel
theorem dX7_add_38 : decode cX7_add 38 = .ok (.bipush (-2), 2) := by decide +kernel
theorem dX7_add_40 : decode cX7_add 40 = .ok (.ireturn, 1) := by decide +kernel
theorem dX7_add_41 : decode cX7_add 41 = .ok (.aload_n 0, 1) := by decide +kernel
theorem dX7_add_42 : decode cX7_add 42 = .ok (.iload_n 1, 1) := by decide +kernel
theorem dX7_add_43 : decode cX7_add 43 = .ok (.iload_n 2, 1) := by decide +kernel
theorem dX7_add_44 : decode cX7_add 44 = .ok (.iload_n 3, 1) := by decide +kernel
theorem dX7_add_45 : decode cX7_add 45 = .ok (.invokestatic 162, 3) := by decide +kernel
theorem dX7_add_48 : decode cX7_add 48 = .ok (.invokevirtual 166, 3) := by decide +kernel
theorem dX7_add_51 : decode cX7_add 51 = .ok (.ireturn, 1) := by decide +kernel
theorem dX7_adds_0 : decode cX7_adds 0 = .ok (.aload_n 0, 1) := by decide +kernel
theorem dX7_adds_1 : decode cX7_adds 1 = .ok (.getfield 91, 3) := by decide +kernel
theorem dX7_adds_4 : decode cX7_adds 4 = .ok (.bipush 8, 2) := by decide +kernel
theorem dX7_adds_6 : decode cX7_adds 6 = .ok (.if_icmp .ne 6, 3) := by decide +kernel
theorem dX7_adds_9 : decode cX7_adds 9 = .ok (.bipush (-4), 2) := by decide +kernel
theorem dX7_adds_11 : decode cX7_adds 11 = .ok (.ireturn, 1) := by decide +kernel
theorem dX7_adds_12 : decode cX7_adds 12 = .ok (.aload_n 0, 1) := by decide +kernel
theorem dX7_adds_13 : decode cX7_adds 13 = .ok (.getfield 17, 3) := by decide +kernel
theorem dX7_adds_16 : decode cX7_adds 16 = .ok (.aload_n 0, 1) := by decide +kernel
theorem dX7_adds_17 : decode cX7_adds 17 = .ok (.getfield 91, 3) := by decide +kernel
theorem dX7_adds_20 : decode cX7_adds 20 = .ok (.iload_n 1, 1) := by decide +kernel
theorem dX7_adds_21 : decode cX7_adds 21 = .ok (.iastore, 1) := by decide +kernel
theorem dX7_adds_22 : decode cX7_adds 22 = .ok (.aload_n 0, 1) := by decide +kernel
theorem dX7_adds_23 : decode cX7_adds 23 = .ok (.dup, 1) := by decide +kernel
theorem dX7_adds_24 : decode cX7_adds 24 = .ok (.getfield 91, 3) := by decide +kernel
theorem dX7_adds_27 : decode cX7_adds 27 = .ok (.iconst 1, 1) := by decide +kernel
theorem dX7_adds_28 : decode cX7_adds 28 = .ok (.iadd, 1) := by decide +kernel
theorem dX7_adds_29 : decode cX7_adds 29 = .ok (.putfield 91, 3) := by decide +kernel
theorem dX7_adds_32 : decode cX7_adds 32 = .ok (.aload_n 0, 1) := by decide +kernel
theorem dX7_adds_33 : decode cX7_adds 33 = .ok (.getfield 91, 3) := by decide +kernel
theorem dX7_adds_36 : decode cX7_adds 36 = .ok (.iconst 1, 1) := by decide +kernel
theorem dX7_adds_37 : decode cX7_adds 37 = .ok (.isub, 1) := by decide +kernel
theorem dX7_adds_38 : decode cX7_adds 38 = .ok (.ireturn, 1) := by decide +kernel
theorem dX7_told_0 : decode cX7_told 0 = .ok (.iload_n 1, 1) := by decide +kernel
theorem dX7_told_1 : decode cX7_told 1 = .ok (.ifCond .ne 10, 3) := by decide +kernel
theorem dX7_told_4 : decode cX7_told 4 = .ok (.iload_n 0, 1) := by decide +kernel
theorem dX7_told_5 : decode cX7_told 5 = .ok (.invokestatic 101, 3) := by decide +kernel
theorem dX7_told_8 : decode cX7_told 8 = .ok (.goto 19, 3) := by decide +kernel
theorem dX7_told_11 : decode cX7_told 11 = .ok (.iload_n 1, 1) := by decide +kernel
theorem dX7_told_12 : decode cX7_told 12 = .ok (.iconst 1, 1) := by decide +kernel
theorem dX7_told_13 : decode cX7_told 13 = .ok (.if_icmp .ne 10, 3) := by decide +kernel
theorem dX7_told_16 : decode cX7_told 16 = .ok (.iload_n 0, 1) := by decide +kernel
theorem dX7_told_17 : decode cX7_told 17 = .ok (.invokestatic 114, 3) := by decide +kernel
theorem dX7_told_20 : decode cX7_told 20 = .ok (.goto 7, 3) := by decide +kernel
theorem dX7_told_23 : decode cX7_told 23 = .ok (.iload_n 0, 1) := by decide +kernel
theorem dX7_told_24 : decode cX7_told 24 = .ok (.invokestatic 105, 3) := by decide +kernel
theorem dX7_told_27 : decode cX7_told 27 = .ok (.ireturn, 1) := by decide +kernel
theorem dX7_with_0 : decode cX7_with 0 = .ok (.iload_n 1, 1) := by decide +kernel
theorem dX7_with_1 : decode cX7_with 1 = .ok (.ifCond .ne 7, 3) := by decide +kernel
theorem dX7_with_4 : decode cX7_with 4 = .ok (.iload_n 2, 1) := by decide +kernel
theorem dX7_with_5 : decode cX7_with 5 = .ok (.goto 7, 3) := by decide +kernel
theorem dX7_with_8 : decode cX7_with 8 = .ok (.iload_n 0, 1) := by decide +kernel
theorem dX7_with_9 : decode cX7_with 9 = .ok (.invokestatic 101, 3) := by decide +kernel
theorem dX7_with_12 : decode cX7_with 12 = .ok (.iload_n 1, 1) := by decide +kernel
theorem dX7_with_13 : decode cX7_with 13 = .ok (.iconst 1, 1) := by decide +kernel
theorem dX7_with_14 : decode cX7_with 14 = .ok (.if_icmp .ne 7, 3) := by decide +kernel
theorem dX7_with_17 : decode cX7_with 17 = .ok (.iload_n 2, 1) := by decide +kernel
theorem dX7_with_18 : decode cX7_with 18 = .ok (.goto 7, 3) := by decide +kernel
theorem dX7_with_21 : decode cX7_with 21 = .ok (.iload_n 0, 1) := by decide +kernel
theorem dX7_with_22 : decode cX7_with 22 = .ok (.invokestatic 114, 3) := by decide +kernel
theorem dX7_with_25 : decode cX7_with 25 = .ok (.iload_n 1, 1) := by decide +kernel
theorem dX7_with_26 : decode cX7_with 26 = .ok (.iconst 2, 1) := by decide +kernel
theorem dX7_with_27 : decode cX7_with 27 = .ok (.if_icmp .ne 7, 3) := by decide +kernel
theorem dX7_with_30 : decode cX7_with 30 = .ok (.iload_n 2, 1) := by decide +kernel
theorem dX7_with_31 : decode cX7_with 31 = .ok (.goto 7, 3) := by decide +kernel
theorem dX7_with_34 : decode cX7_with 34 = .ok (.iload_n 0, 1) := by decide +kernel
theorem dX7_with_35 : decode cX7_with 35 = .ok (.invokestatic 105, 3) := by decide +kernel
theorem dX7_with_38 : decode cX7_with 38 = .ok (.invokestatic 162, 3) := by decide +kernel
theorem dX7_with_41 : decode cX7_with 41 = .ok (.ireturn, 1) := by decide +kernel
theorem dX7_change_0 : decode cX7_change 0 = .ok (.aload_n 0, 1) := by decide +kernel
theorem dX7_change_1 : decode cX7_change 1 = .ok (.iload_n 1, 1) := by decide +kernel
theorem dX7_change_2 : decode cX7_change 2 = .ok (.invokevirtual 169, 3) := by decide +kernel
theorem dX7_change_5 : decode cX7_change 5 = .ok (.ifCond .eq 15, 3) := by decide +kernel
theorem dX7_change_8 : decode cX7_change 8 = .ok (.iload_n 2, 1) := by decide +kernel
theorem dX7_change_9 : decode cX7_change 9 = .ok (.i2l, 1) := by decide +kernel
theorem dX7_change_10 : decode cX7_change 10 = .ok (.lconst 0, 1) := by decide +kernel
theorem dX7_change_11 : decode cX7_change 11 = .ok (.ldc2_w 99, 3) := by decide +kernel
theorem dX7_change_14 : decode cX7_change 14 = .ok (.invokestatic 95, 3) := by decide +kernel
theorem dX7_change_17 : decode cX7_change 17 = .ok (.ifCond .ne 5, 3) := by decide +kernel
theorem dX7_change_20 : decode cX7_change 20 = .ok (.iconst (-1), 1) := by decide +kernel
theorem dX7_change_21 : decode cX7_change 21 = .ok (.ireturn, 1) := by decide +kernel
theorem dX7_change_22 : decode cX7_change 22 = .ok (.iload_n 3, 1) := by decide +kernel
theorem dX7_change_23 : decode cX7_change 23 = .ok (.i2l, 1) := by decide +kernel
theorem dX7_change_24 : decode cX7_change 24 = .ok (.lconst 0, 1) := by decide +kernel
theorem dX7_change_25 : decode cX7_change 25 = .ok (.iload_n 2, 1) := by decide +kernel
theorem dX7_change_26 : decode cX7_change 26 = .ok (.ifCond .ne 9, 3) := by decide +kernel
theorem dX7_change_29 : decode cX7_change 29 = .ok (.ldc2_w 158, 3) := by decide +kernel
theorem dX7_change_32 : decode cX7_change 32 = .ok (.goto 17, 3) := by decide +kernel
theorem dX7_change_35 : decode cX7_change 35 = .ok (.iload_n 2, 1) := by decide +kernel
theorem dX7_change_36 : decode cX7_change 36 = .ok (.iconst 1, 1) := by decide +kernel
theorem dX7_change_37 : decode cX7_change 37 = .ok (.if_icmp .ne 9, 3) := by decide +kernel
theorem dX7_change_40 : decode cX7_change 40 = .ok (.ldc2_w 160, 3) := by decide +kernel
theorem dX7_change_43 : decode cX7_change 43 = .ok (.goto 6, 3) := by decide +kernel
theorem dX7_change_46 : decode cX7_change 46 = .ok (.ldc2_w 9, 3) := by decide +kernel
theorem dX7_change_49 : decode cX7_change 49 = .ok (.invokestatic 95, 3) := by decide +kernel
theorem dX7_change_52 : decode cX7_change 52 = .ok (.ifCond .ne 6, 3) := by decide +kernel
theorem dX7_change_55 : decode cX7_change 55 = .ok (.bipush (-2), 2) := by decide +kernel
theorem dX7_change_57 : decode cX7_change 57 = .ok (.ireturn, 1) := by decide +kernel
theorem dX7_change_58 : decode cX7_change 58 = .ok (.aload_n 0, 1) := by decide +kernel
theorem dX7_change_59 : decode cX7_change 59 = .ok (.getfield 17, 3) := by decide +kernel
theorem dX7_change_62 : decode cX7_change 62 = .ok (.iload_n 1, 1) := by decide +kernel
theorem dX7_change_63 : decode cX7_change 63 = .ok (.iaload, 1) := by decide +kernel
theorem dX7_change_64 : decode cX7_change 64 = .ok (.iload_n 2, 1) := by decide +kernel
theorem dX7_change_65 : decode cX7_change 65 = .ok (.invokestatic 173, 3) := by decide +kernel
theorem dX7_change_68 : decode cX7_change 68 = .ok (.istore 4, 2) := by decide +kernel
theorem dX7_change_70 : decode cX7_change 70 = .ok (.aload_n 0, 1) := by decide +kernel
theorem dX7_change_71 : decode cX7_change 71 = .ok (.getfield 17, 3) := by decide +kernel
theorem dX7_change_74 : decode cX7_change 74 = .ok (.iload_n 1, 1) := by decide +kernel
theorem dX7_change_75 : decode cX7_change 75 = .ok (.aload_n 0, 1) := by decide +kernel
theorem dX7_change_76 : decode cX7_change 76 = .ok (.getfield 17, 3) := by decide +kernel
theorem dX7_change_79 : decode cX7_change 79 = .ok (.iload_n 1, 1) := by decide +kernel
theorem dX7_change_80 : decode cX7_change 80 = .ok (.iaload, 1) := by decide +kernel
theorem dX7_change_81 : decode cX7_change 81 = .ok (.iload_n 2, 1) := by decide +kernel
theorem dX7_change_82 : decode cX7_change 82 = .ok (.iload_n 3, 1) := by decide +kernel
theorem dX7_change_83 : decode cX7_change 83 = .ok (.invokestatic 177, 3) := by decide +kernel
theorem dX7_change_86 : decode cX7_change 86 = .ok (.iastore, 1) := by decide +kernel
theorem dX7_change_87 : decode cX7_change 87 = .ok (.iload 4, 2) := by decide +kernel
theorem dX7_change_89 : decode cX7_change 89 = .ok (.ireturn, 1) := by decide +kernel
theorem dX7_turn_0 : decode cX7_turn 0 = .ok (.aload_n 0, 1) := by decide +kernel
theorem dX7_turn_1 : decode cX7_turn 1 = .ok (.iload_n 1, 1) := by decide +kernel
theorem dX7_turn_2 : decode cX7_turn 2 = .ok (.invokevirtual 169, 3) := by decide +kernel
theorem dX7_turn_5 : decode cX7_turn 5 = .ok (.ifCond .ne 5, 3) := by decide +kernel
theorem dX7_turn_8 : decode cX7_turn 8 = .ok (.iconst (-1), 1) := by decide +kernel
theorem dX7_turn_9 : decode cX7_turn 9 = .ok (.ireturn, 1) := by decide +kernel
theorem dX7_turn_10 : decode cX7_turn 10 = .ok (.aload_n 0, 1) := by decide +kernel
theorem dX7_turn_11 : decode cX7_turn 11 = .ok (.getfield 17, 3) := by decide +kernel
theorem dX7_turn_14 : decode cX7_turn 14 = .ok (.iload_n 1, 1) := by decide +kernel
theorem dX7_turn_15 : decode cX7_turn 15 = .ok (.iaload, 1) := by decide +kernel
theorem dX7_turn_16 : decode cX7_turn 16 = .ok (.invokestatic 114, 3) := by decide +kernel
theorem dX7_turn_19 : decode cX7_turn 19 = .ok (.iload_n 2, 1) := by decide +kernel
theorem dX7_turn_20 : decode cX7_turn 20 = .ok (.iconst 4, 1) := by decide +kernel
theorem dX7_turn_21 : decode cX7_turn 21 = .ok (.irem, 1) := by decide +kernel
theorem dX7_turn_22 : decode cX7_turn 22 = .ok (.iadd, 1) := by decide +kernel
theorem dX7_turn_23 : decode cX7_turn 23 = .ok (.iconst 4, 1) := by decide +kernel
theorem dX7_turn_24 : decode cX7_turn 24 = .ok (.irem, 1) := by decide +kernel
theorem dX7_turn_25 : decode cX7_turn 25 = .ok (.iconst 4, 1) := by decide +kernel
theorem dX7_turn_26 : decode cX7_turn 26 = .ok (.iadd, 1) := by decide +kernel
theorem dX7_turn_27 : decode cX7_turn 27 = .ok (.iconst 4, 1) := by decide +kernel
theorem dX7_turn_28 : decode cX7_turn 28 = .ok (.irem, 1) := by decide +kernel
theorem dX7_turn_29 : decode cX7_turn 29 = .ok (.istore_n 3, 1) := by decide +kernel
theorem dX7_turn_30 : decode cX7_turn 30 = .ok (.aload_n 0, 1) := by decide +kernel
theorem dX7_turn_31 : decode cX7_turn 31 = .ok (.getfield 17, 3) := by decide +kernel
theorem dX7_turn_34 : decode cX7_turn 34 = .ok (.iload_n 1, 1) := by decide +kernel
theorem dX7_turn_35 : decode cX7_turn 35 = .ok (.aload_n 0, 1) := by decide +kernel
theorem dX7_turn_36 : decode cX7_turn 36 = .ok (.getfield 17, 3) := by decide +kernel
theorem dX7_turn_39 : decode cX7_turn 39 = .ok (.iload_n 1, 1) := by decide +kernel
theorem dX7_turn_40 : decode cX7_turn 40 = .ok (.iaload, 1) := by decide +kernel
theorem dX7_turn_41 : decode cX7_turn 41 = .ok (.iconst 1, 1) := by decide +kernel
theorem dX7_turn_42 : decode cX7_turn 42 = .ok (.iload_n 3, 1) := by decide +kernel
theorem dX7_turn_43 : decode cX7_turn 43 = .ok (.invokestatic 177, 3) := by decide +kernel
theorem dX7_turn_46 : decode cX7_turn 46 = .ok (.iastore, 1) := by decide +kernel
theorem dX7_turn_47 : decode cX7_turn 47 = .ok (.iload_n 3, 1) := by decide +kernel
theorem dX7_turn_48 : decode cX7_turn 48 = .ok (.ireturn, 1) := by decide +kernel
theorem dX7_takesOut_0 : decode cX7_takesOut 0 = .ok (.iload_n 1, 1) := by decide +kernel
theorem dX7_takesOut_1 : decode cX7_takesOut 1 = .ok (.istore_n 2, 1) := by decide +kernel
theorem dX7_takesOut_2 : decode cX7_takesOut 2 = .ok (.iload_n 2, 1) := by decide +kernel
theorem dX7_takesOut_3 : decode cX7_takesOut 3 = .ok (.iconst 1, 1) := by decide +kernel
theorem dX7_takesOut_4 : decode cX7_takesOut 4 = .ok (.iadd, 1) := by decide +kernel
theorem dX7_takesOut_5 : decode cX7_takesOut 5 = .ok (.aload_n 0, 1) := by decide +kernel
theorem dX7_takesOut_6 : decode cX7_takesOut 6 = .ok (.getfield 91, 3) := by decide +kernel
theorem dX7_takesOut_9 : decode cX7_takesOut 9 = .ok (.if_icmp .ge 23, 3) := by decide +kernel
theorem dX7_takesOut_12 : decode cX7_takesOut 12 = .ok (.aload_n 0, 1) := by decide +kernel
theorem dX7_takesOut_13 : decode cX7_takesOut 13 = .ok (.getfield 17, 3) := by decide +kernel
theorem dX7_takesOut_16 : decode cX7_takesOut 16 = .ok (.iload_n 2, 1) := by decide +kernel
theorem dX7_takesOut_17 : decode cX7_takesOut 17 = .ok (.aload_n 0, 1) := by decide +kernel
theorem dX7_takesOut_18 : decode cX7_takesOut 18 = .ok (.getfield 17, 3) := by decide +kernel
theorem dX7_takesOut_21 : decode cX7_takesOut 21 = .ok (.iload_n 2, 1) := by decide +kernel
theorem dX7_takesOut_22 : decode cX7_takesOut 22 = .ok (.iconst 1, 1) := by decide +kernel
theorem dX7_takesOut_23 : decode cX7_takesOut 23 = .ok (.iadd, 1) := by decide +kernel
theorem dX7_takesOut_24 : decode cX7_takesOut 24 = .ok (.iaload, 1) := by decide +kernel
theorem dX7_takesOut_25 : decode cX7_takesOut 25 = .ok (.iastore, 1) := by decide +kernel
theorem dX7_takesOut_26 : decode cX7_takesOut 26 = .ok (.iinc 2 1, 3) := by decide +kernel
theorem dX7_takesOut_29 : decode cX7_takesOut 29 = .ok (.goto (-27), 3) := by decide +kernel
theorem dX7_takesOut_32 : decode cX7_takesOut 32 = .ok (.return_, 1) := by decide +kernel
theorem dX7_move_0 : decode cX7_move 0 = .ok (.aload_n 0, 1) := by decide +kernel
theorem dX7_move_1 : decode cX7_move 1 = .ok (.iload_n 1, 1) := by decide +kernel
theorem dX7_move_2 : decode cX7_move 2 = .ok (.invokevirtual 169, 3) := by decide +kernel
theorem dX7_move_5 : decode cX7_move 5 = .ok (.ifCond .eq 11, 3) := by decide +kernel
theorem dX7_move_8 : decode cX7_move 8 = .ok (.aload_n 0, 1) := by decide +kernel
theorem dX7_move_9 : decode cX7_move 9 = .ok (.iload_n 2, 1) := by decide +kernel
theorem dX7_move_10 : decode cX7_move 10 = .ok (.invokevirtual 169, 3) := by decide +kernel
theorem dX7_move_13 : decode cX7_move 13 = .ok (.ifCond .ne 5, 3) := by decide +kernel
theorem dX7_move_16 : decode cX7_move 16 = .ok (.iconst (-1), 1) := by decide +kernel
theorem dX7_move_17 : decode cX7_move 17 = .ok (.ireturn, 1) := by decide +kernel
theorem dX7_move_18 : decode cX7_move 18 = .ok (.aload_n 0, 1) := by decide +kernel
theorem dX7_move_19 : decode cX7_move 19 = .ok (.getfield 17, 3) := by decide +kernel
theorem dX7_move_22 : decode cX7_move 22 = .ok (.iload_n 1, 1) := by decide +kernel
theorem dX7_move_23 : decode cX7_move 23 = .ok (.iaload, 1) := by decide +kernel
theorem dX7_move_24 : decode cX7_move 24 = .ok (.istore_n 3, 1) := by decide +kernel
theorem dX7_move_25 : decode cX7_move 25 = .ok (.aload_n 0, 1) := by decide +kernel
theorem dX7_move_26 : decode cX7_move 26 = .ok (.iload_n 1, 1) := by decide +kernel
theorem dX7_move_27 : decode cX7_move 27 = .ok (.invokevirtual 180, 3) := by decide +kernel
theorem dX7_move_30 : decode cX7_move 30 = .ok (.aload_n 0, 1) := by decide +kernel
theorem dX7_move_31 : decode cX7_move 31 = .ok (.getfield 91, 3) := by decide +kernel
theorem dX7_move_34 : decode cX7_move 34 = .ok (.iconst 1, 1) := by decide +kernel
theorem dX7_move_35 : decode cX7_move 35 = .ok (.isub, 1) := by decide +kernel
theorem dX7_move_36 : decode cX7_move 36 = .ok (.istore 4, 2) := by decide +kernel
theorem dX7_move_38 : decode cX7_move 38 = .ok (.iload 4, 2) := by decide +kernel
theorem dX7_move_40 : decode cX7_move 40 = .ok (.iload_n 2, 1) := by decide +kernel
theorem dX7_move_41 : decode cX7_move 41 = .ok (.if_icmp .le 25, 3) := by decide +kernel
theorem dX7_move_44 : decode cX7_move 44 = .ok (.aload_n 0, 1) := by decide +kernel
theorem dX7_move_45 : decode cX7_move 45 = .ok (.getfield 17, 3) := by decide +kernel
theorem dX7_move_48 : decode cX7_move 48 = .ok (.iload 4, 2) := by decide +kernel
theorem dX7_move_50 : decode cX7_move 50 = .ok (.aload_n 0, 1) := by decide +kernel
theorem dX7_move_51 : decode cX7_move 51 = .ok (.getfield 17, 3) := by decide +kernel
theorem dX7_move_54 : decode cX7_move 54 = .ok (.iload 4, 2) := by decide +kernel
theorem dX7_move_56 : decode cX7_move 56 = .ok (.iconst 1, 1) := by decide +kernel
theorem dX7_move_57 : decode cX7_move 57 = .ok (.isub, 1) := by decide +kernel
theorem dX7_move_58 : decode cX7_move 58 = .ok (.iaload, 1) := by decide +kernel
theorem dX7_move_59 : decode cX7_move 59 = .ok (.iastore, 1) := by decide +kernel
theorem dX7_move_60 : decode cX7_move 60 = .ok (.iinc 4 (-1), 3) := by decide +kernel
theorem dX7_move_63 : decode cX7_move 63 = .ok (.goto (-25), 3) := by decide +kernel
theorem dX7_move_66 : decode cX7_move 66 = .ok (.aload_n 0, 1) := by decide +kernel
theorem dX7_move_67 : decode cX7_move 67 = .ok (.getfield 17, 3) := by decide +kernel
theorem dX7_move_70 : decode cX7_move 70 = .ok (.iload_n 2, 1) := by decide +kernel
theorem dX7_move_71 : decode cX7_move 71 = .ok (.iload_n 3, 1) := by decide +kernel
theorem dX7_move_72 : decode cX7_move 72 = .ok (.iastore, 1) := by decide +kernel
theorem dX7_move_73 : decode cX7_move 73 = .ok (.iload_n 1, 1) := by decide +kernel
theorem dX7_move_74 : decode cX7_move 74 = .ok (.iload_n 2, 1) := by decide +kernel
theorem dX7_move_75 : decode cX7_move 75 = .ok (.if_icmp .ne 7, 3) := by decide +kernel
theorem dX7_move_78 : decode cX7_move 78 = .ok (.iconst 0, 1) := by decide +kernel
theorem dX7_move_79 : decode cX7_move 79 = .ok (.goto 4, 3) := by decide +kernel
theorem dX7_move_82 : decode cX7_move 82 = .ok (.iconst 1, 1) := by decide +kernel
theorem dX7_move_83 : decode cX7_move 83 = .ok (.ireturn, 1) := by decide +kernel
theorem dX7_cut_0 : decode cX7_cut 0 = .ok (.aload_n 0, 1) := by decide +kernel
theorem dX7_cut_1 : decode cX7_cut 1 = .ok (.iload_n 1, 1) := by decide +kernel
theorem dX7_cut_2 : decode cX7_cut 2 = .ok (.invokevirtual 169, 3) := by decide +kernel
theorem dX7_cut_5 : decode cX7_cut 5 = .ok (.ifCond .ne 5, 3) := by decide +kernel
theorem dX7_cut_8 : decode cX7_cut 8 = .ok (.iconst (-1), 1) := by decide +kernel
theorem dX7_cut_9 : decode cX7_cut 9 = .ok (.ireturn, 1) := by decide +kernel
theorem dX7_cut_10 : decode cX7_cut 10 = .ok (.aload_n 0, 1) := by decide +kernel
theorem dX7_cut_11 : decode cX7_cut 11 = .ok (.iload_n 1, 1) := by decide +kernel
theorem dX7_cut_12 : decode cX7_cut 12 = .ok (.invokevirtual 180, 3) := by decide +kernel
theorem dX7_cut_15 : decode cX7_cut 15 = .ok (.aload_n 0, 1) := by decide +kernel
theorem dX7_cut_16 : decode cX7_cut 16 = .ok (.dup, 1) := by decide +kernel
theorem dX7_cut_17 : decode cX7_cut 17 = .ok (.getfield 91, 3) := by decide +kernel
theorem dX7_cut_20 : decode cX7_cut 20 = .ok (.iconst 1, 1) := by decide +kernel
theorem dX7_cut_21 : decode cX7_cut 21 = .ok (.isub, 1) := by decide +kernel
theorem dX7_cut_22 : decode cX7_cut 22 = .ok (.putfield 91, 3) := by decide +kernel
theorem dX7_cut_25 : decode cX7_cut 25 = .ok (.aload_n 0, 1) := by decide +kernel
theorem dX7_cut_26 : decode cX7_cut 26 = .ok (.getfield 91, 3) := by decide +kernel
theorem dX7_cut_29 : decode cX7_cut 29 = .ok (.ireturn, 1) := by decide +kernel
theorem dX7_clear_0 : decode cX7_clear 0 = .ok (.aload_n 0, 1) := by decide +kernel
theorem dX7_clear_1 : decode cX7_clear 1 = .ok (.getfield 91, 3) := by decide +kernel
theorem dX7_clear_4 : decode cX7_clear 4 = .ok (.istore_n 1, 1) := by decide +kernel
theorem dX7_clear_5 : decode cX7_clear 5 = .ok (.aload_n 0, 1) := by decide +kernel
theorem dX7_clear_6 : decode cX7_clear 6 = .ok (.iconst 0, 1) := by decide +kernel
theorem dX7_clear_7 : decode cX7_clear 7 = .ok (.putfield 91, 3) := by decide +kernel
theorem dX7_clear_10 : decode cX7_clear 10 = .ok (.iload_n 1, 1) := by decide +kernel
theorem dX7_clear_11 : decode cX7_clear 11 = .ok (.ireturn, 1) := by decide +kernel
theorem dX7_isUnderKind_0 : decode cX7_isUnderKind 0 = .ok (.iload_n 1, 1) := by decide +kernel
theorem dX7_isUnderKind_1 : decode cX7_isUnderKind 1 = .ok (.tableswitch 96 0 4 #[35, 37, 64, 96, 80], 35) := by decide +kernel
theorem dX7_isUnderKind_36 : decode cX7_isUnderKind 36 = .ok (.iconst 1, 1) := by decide +kernel
theorem dX7_isUnderKind_37 : decode cX7_isUnderKind 37 = .ok (.ireturn, 1) := by decide +kernel
theorem dX7_isUnderKind_38 : decode cX7_isUnderKind 38 = .ok (.iload_n 0, 1) := by decide +kernel
theorem dX7_isUnderKind_39 : decode cX7_isUnderKind 39 = .ok (.iconst 1, 1) := by decide +kernel
theorem dX7_isUnderKind_40 : decode cX7_isUnderKind 40 = .ok (.if_icmp .eq 19, 3) := by decide +kernel
theorem dX7_isUnderKind_43 : decode cX7_isUnderKind 43 = .ok (.iload_n 0, 1) := by decide +kernel
theorem dX7_isUnderKind_44 : decode cX7_isUnderKind 44 = .ok (.iconst 2, 1) := by decide +kernel
theorem dX7_isUnderKind_45 : decode cX7_isUnderKind 45 = .ok (.if_icmp .eq 14, 3) := by decide +kernel
theorem dX7_isUnderKind_48 : decode cX7_isUnderKind 48 = .ok (.iload_n 0, 1) := by decide +kernel
theorem dX7_isUnderKind_49 : decode cX7_isUnderKind 49 = .ok (.iconst 3, 1) := by decide +kernel
theorem dX7_isUnderKind_50 : decode cX7_isUnderKind 50 = .ok (.if_icmp .eq 9, 3) := by decide +kernel
theorem dX7_isUnderKind_53 : decode cX7_isUnderKind 53 = .ok (.iload_n 0, 1) := by decide +kernel
theorem dX7_isUnderKind_54 : decode cX7_isUnderKind 54 = .ok (.bipush 6, 2) := by decide +kernel
theorem dX7_isUnderKind_56 : decode cX7_isUnderKind 56 = .ok (.if_icmp .ne 7, 3) := by decide +kernel
theorem dX7_isUnderKind_59 : decode cX7_isUnderKind 59 = .ok (.iconst 1, 1) := by decide +kernel
theorem dX7_isUnderKind_60 : decode cX7_isUnderKind 60 = .ok (.goto 4, 3) := by decide +kernel
theorem dX7_isUnderKind_63 : decode cX7_isUnderKind 63 = .ok (.iconst 0, 1) := by decide +kernel
theorem dX7_isUnderKind_64 : decode cX7_isUnderKind 64 = .ok (.ireturn, 1) := by decide +kernel
theorem dX7_isUnderKind_65 : decode cX7_isUnderKind 65 = .ok (.iload_n 0, 1) := by decide +kernel
theorem dX7_isUnderKind_66 : decode cX7_isUnderKind 66 = .ok (.iconst 2, 1) := by decide +kernel
theorem dX7_isUnderKind_67 : decode cX7_isUnderKind 67 = .ok (.if_icmp .eq 8, 3) := by decide +kernel
theorem dX7_isUnderKind_70 : decode cX7_isUnderKind 70 = .ok (.iload_n 0, 1) := by decide +kernel
theorem dX7_isUnderKind_71 : decode cX7_isUnderKind 71 = .ok (.iconst 3, 1) := by decide +kernel
theorem dX7_isUnderKind_72 : decode cX7_isUnderKind 72 = .ok (.if_icmp .ne 7, 3) := by decide +kernel
theorem dX7_isUnderKind_75 : decode cX7_isUnderKind 75 = .ok (.iconst 1, 1) := by decide +kernel
theorem dX7_isUnderKind_76 : decode cX7_isUnderKind 76 = .ok (.goto 4, 3) := by decide +kernel
theorem dX7_isUnderKind_79 : decode cX7_isUnderKind 79 = .ok (.iconst 0, 1) := by decide +kernel
theorem dX7_isUnderKind_80 : decode cX7_isUnderKind 80 = .ok (.ireturn, 1) := by decide +kernel
theorem dX7_isUnderKind_81 : decode cX7_isUnderKind 81 = .ok (.iload_n 0, 1) := by decide +kernel
theorem dX7_isUnderKind_82 : decode cX7_isUnderKind 82 = .ok (.iconst 4, 1) := by decide +kernel
theorem dX7_isUnderKind_83 : decode cX7_isUnderKind 83 = .ok (.if_icmp .eq 8, 3) := by decide +kernel
theorem dX7_isUnderKind_86 : decode cX7_isUnderKind 86 = .ok (.iload_n 0, 1) := by decide +kernel
theorem dX7_isUnderKind_87 : decode cX7_isUnderKind 87 = .ok (.iconst 5, 1) := by decide +kernel
theorem dX7_isUnderKind_88 : decode cX7_isUnderKind 88 = .ok (.if_icmp .ne 7, 3) := by decide +kernel
theorem dX7_isUnderKind_91 : decode cX7_isUnderKind 91 = .ok (.iconst 1, 1) := by decide +kernel
theorem dX7_isUnderKind_92 : decode cX7_isUnderKind 92 = .ok (.goto 4, 3) := by decide +kernel
theorem dX7_isUnderKind_95 : decode cX7_isUnderKind 95 = .ok (.iconst 0, 1) := by decide +kernel
theorem dX7_isUnderKind_96 : decode cX7_isUnderKind 96 = .ok (.ireturn, 1) := by decide +kernel
theorem dX7_isUnderKind_97 : decode cX7_isUnderKind 97 = .ok (.iload_n 0, 1) := by decide +kernel
theorem dX7_isUnderKind_98 : decode cX7_isUnderKind 98 = .ok (.iload_n 1, 1) := by decide +kernel
theorem dX7_isUnderKind_99 : decode cX7_isUnderKind 99 = .ok (.if_icmp .ne 7, 3) := by decide +kernel
theorem dX7_isUnderKind_102 : decode cX7_isUnderKind 102 = .ok (.iconst 1, 1) := by decide +kernel
theorem dX7_isUnderKind_103 : decode cX7_isUnderKind 103 = .ok (.goto 4, 3) := by decide +kernel
theorem dX7_isUnderKind_106 : decode cX7_isUnderKind 106 = .ok (.iconst 0, 1) := by decide +kernel
theorem dX7_isUnderKind_107 : decode cX7_isUnderKind 107 = .ok (.ireturn, 1) := by decide +kernel
theorem dX7_of_0 : decode cX7_of 0 = .ok (.aload_n 0, 1) := by decide +kernel
theorem dX7_of_1 : decode cX7_of 1 = .ok (.iload_n 1, 1) := by decide +kernel
theorem dX7_of_2 : decode cX7_of 2 = .ok (.invokevirtual 169, 3) := by decide +kernel
theorem dX7_of_5 : decode cX7_of 5 = .ok (.ifCond .eq 15, 3) := by decide +kernel
theorem dX7_of_8 : decode cX7_of 8 = .ok (.iload_n 2, 1) := by decide +kernel
theorem dX7_of_9 : decode cX7_of 9 = .ok (.i2l, 1) := by decide +kernel
theorem dX7_of_10 : decode cX7_of 10 = .ok (.lconst 0, 1) := by decide +kernel
theorem dX7_of_11 : decode cX7_of 11 = .ok (.ldc2_w 158, 3) := by decide +kernel
theorem dX7_of_14 : decode cX7_of 14 = .ok (.invokestatic 95, 3) := by decide +kernel
theorem dX7_of_17 : decode cX7_of 17 = .ok (.ifCond .ne 5, 3) := by decide +kernel
theorem dX7_of_20 : decode cX7_of 20 = .ok (.iconst (-1), 1) := by decide +kernel
theorem dX7_of_21 : decode cX7_of 21 = .ok (.ireturn, 1) := by decide +kernel
theorem dX7_of_22 : decode cX7_of 22 = .ok (.aload_n 0, 1) := by decide +kernel
theorem dX7_of_23 : decode cX7_of 23 = .ok (.getfield 17, 3) := by decide +kernel
theorem dX7_of_26 : decode cX7_of 26 = .ok (.iload_n 1, 1) := by decide +kernel
theorem dX7_of_27 : decode cX7_of 27 = .ok (.iaload, 1) := by decide +kernel
theorem dX7_of_28 : decode cX7_of 28 = .ok (.istore_n 3, 1) := by decide +kernel
theorem dX7_of_29 : decode cX7_of 29 = .ok (.iload_n 2, 1) := by decide +kernel
theorem dX7_of_30 : decode cX7_of 30 = .ok (.iconst 3, 1) := by decide +kernel
theorem dX7_of_31 : decode cX7_of 31 = .ok (.if_icmp .ge 9, 3) := by decide +kernel
theorem dX7_of_34 : decode cX7_of 34 = .ok (.iload_n 3, 1) := by decide +kernel
theorem dX7_of_35 : decode cX7_of 35 = .ok (.iload_n 2, 1) := by decide +kernel
theorem dX7_of_36 : decode cX7_of 36 = .ok (.invokestatic 173, 3) := by decide +kernel
theorem dX7_of_39 : decode cX7_of 39 = .ok (.ireturn, 1) := by decide +kernel
theorem dX7_of_40 : decode cX7_of 40 = .ok (.iload_n 2, 1) := by decide +kernel
theorem dX7_of_41 : decode cX7_of 41 = .ok (.bipush 6, 2) := by decide +kernel
theorem dX7_of_43 : decode cX7_of 43 = .ok (.if_icmp .ne 5, 3) := by decide +kernel
theorem dX7_of_46 : decode cX7_of 46 = .ok (.iload_n 3, 1) := by decide +kernel
theorem dX7_of_47 : decode cX7_of 47 = .ok (.ireturn, 1) := by decide +kernel
theorem dX7_of_48 : decode cX7_of 48 = .ok (.iload_n 2, 1) := by decide +kernel
theorem dX7_of_49 : decode cX7_of 49 = .ok (.iconst 5, 1) := by decide +kernel
theorem dX7_of_50 : decode cX7_of 50 = .ok (.if_icmp .ne 26, 3) := by decide +kernel
theorem dX7_of_53 : decode cX7_of 53 = .ok (.iload_n 3, 1) := by decide +kernel
theorem dX7_of_54 : decode cX7_of 54 = .ok (.invokestatic 101, 3) := by decide +kernel
theorem dX7_of_57 : decode cX7_of 57 = .ok (.iconst 4, 1) := by decide +kernel
theorem dX7_of_58 : decode cX7_of 58 = .ok (.invokestatic 184, 3) := by decide +kernel
theorem dX7_of_61 : decode cX7_of 61 = .ok (.ifCond .eq 12, 3) := by decide +kernel
theorem dX7_of_64 : decode cX7_of 64 = .ok (.iload_n 3, 1) := by decide +kernel
theorem dX7_of_65 : decode cX7_of 65 = .ok (.invokestatic 105, 3) := by decide +kernel
theorem dX7_of_68 : decode cX7_of 68 = .ok (.iconst 4, 1) := by decide +kernel
theorem dX7_of_69 : decode cX7_of 69 = .ok (.irem, 1) := by decide +kernel
theorem dX7_of_70 : decode cX7_of 70 = .ok (.goto 5, 3) := by decide +kernel
theorem dX7_of_73 : decode cX7_of 73 = .ok (.bipush (-5), 2) := by decide +kernel
theorem dX7_of_75 : decode cX7_of 75 = .ok (.ireturn, 1) := by decide +kernel
theorem dX7_of_76 : decode cX7_of 76 = .ok (.iload_n 3, 1) := by decide +kernel
theorem dX7_of_77 : decode cX7_of 77 = .ok (.invokestatic 101, 3) := by decide +kernel
theorem dX7_of_80 : decode cX7_of 80 = .ok (.iconst 2, 1) := by decide +kernel
theorem dX7_of_81 : decode cX7_of 81 = .ok (.invokestatic 184, 3) := by decide +kernel
theorem dX7_of_84 : decode cX7_of 84 = .ok (.ifCond .ne 8, 3) := by decide +kernel
theorem dX7_of_87 : decode cX7_of 87 = .ok (.bipush (-5), 2) := by decide +kernel
theorem dX7_of_89 : decode cX7_of 89 = .ok (.goto 19, 3) := by decide +kernel
theorem dX7_of_92 : decode cX7_of 92 = .ok (.iload_n 2, 1) := by decide +kernel
theorem dX7_of_93 : decode cX7_of 93 = .ok (.iconst 3, 1) := by decide +kernel
theorem dX7_of_94 : decode cX7_of 94 = .ok (.if_icmp .ne 10, 3) := by decide +kernel
theorem dX7_of_97 : decode cX7_of 97 = .ok (.iload_n 3, 1) := by decide +kernel
theorem dX7_of_98 : decode cX7_of 98 = .ok (.invokestatic 108, 3) := by decide +kernel
theorem dX7_of_101 : decode cX7_of 101 = .ok (.goto 7, 3) := by decide +kernel
theorem dX7_of_104 : decode cX7_of 104 = .ok (.iload_n 3, 1) := by decide +kernel
theorem dX7_of_105 : decode cX7_of 105 = .ok (.invokestatic 111, 3) := by decide +kernel
theorem dX7_of_108 : decode cX7_of 108 = .ok (.ireturn, 1) := by decide +kernel
theorem dX7_isUnder_0 : decode cX7_isUnder 0 = .ok (.aload_n 0, 1) := by decide +kernel
theorem dX7_isUnder_1 : decode cX7_isUnder 1 = .ok (.iload_n 1, 1) := by decide +kernel
theorem dX7_isUnder_2 : decode cX7_isUnder 2 = .ok (.invokevirtual 169, 3) := by decide +kernel
theorem dX7_isUnder_5 : decode cX7_isUnder 5 = .ok (.ifCond .eq 15, 3) := by decide +kernel
theorem dX7_isUnder_8 : decode cX7_isUnder 8 = .ok (.iload_n 2, 1) := by decide +kernel
theorem dX7_isUnder_9 : decode cX7_isUnder 9 = .ok (.i2l, 1) := by decide +kernel
theorem dX7_isUnder_10 : decode cX7_isUnder 10 = .ok (.lconst 0, 1) := by decide +kernel
theorem dX7_isUnder_11 : decode cX7_isUnder 11 = .ok (.ldc2_w 158, 3) := by decide +kernel
theorem dX7_isUnder_14 : decode cX7_isUnder 14 = .ok (.invokestatic 95, 3) := by decide +kernel
theorem dX7_isUnder_17 : decode cX7_isUnder 17 = .ok (.ifCond .ne 5, 3) := by decide +kernel
theorem dX7_isUnder_20 : decode cX7_isUnder 20 = .ok (.iconst (-1), 1) := by decide +kernel
theorem dX7_isUnder_21 : decode cX7_isUnder 21 = .ok (.ireturn, 1) := by decide +kernel
theorem dX7_isUnder_22 : decode cX7_isUnder 22 = .ok (.aload_n 0, 1) := by decide +kernel
theorem dX7_isUnder_23 : decode cX7_isUnder 23 = .ok (.getfield 17, 3) := by decide +kernel
theorem dX7_isUnder_26 : decode cX7_isUnder 26 = .ok (.iload_n 1, 1) := by decide +kernel
theorem dX7_isUnder_27 : decode cX7_isUnder 27 = .ok (.iaload, 1) := by decide +kernel
theorem dX7_isUnder_28 : decode cX7_isUnder 28 = .ok (.invokestatic 101, 3) := by decide +kernel
theorem dX7_isUnder_31 : decode cX7_isUnder 31 = .ok (.iload_n 2, 1) := by decide +kernel
theorem dX7_isUnder_32 : decode cX7_isUnder 32 = .ok (.invokestatic 184, 3) := by decide +kernel
theorem dX7_isUnder_35 : decode cX7_isUnder 35 = .ok (.ifCond .eq 7, 3) := by decide +kernel
theorem dX7_isUnder_38 : decode cX7_isUnder 38 = .ok (.iconst 1, 1) := by decide +kernel
theorem dX7_isUnder_39 : decode cX7_isUnder 39 = .ok (.goto 4, 3) := by decide +kernel
theorem dX7_isUnder_42 : decode cX7_isUnder 42 = .ok (.iconst 0, 1) := by decide +kernel
theorem dX7_isUnder_43 : decode cX7_isUnder 43 = .ok (.ireturn, 1) := by decide +kernel
theorem dX7_light_0 : decode cX7_light 0 = .ok (.aload_n 0, 1) := by decide +kernel
theorem dX7_light_1 : decode cX7_light 1 = .ok (.iload_n 1, 1) := by decide +kernel
theorem dX7_light_2 : decode cX7_light 2 = .ok (.invokevirtual 188, 3) := by decide +kernel
theorem dX7_light_5 : decode cX7_light 5 = .ok (.ifCond .eq 15, 3) := by decide +kernel
theorem dX7_light_8 : decode cX7_light 8 = .ok (.iload_n 2, 1) := by decide +kernel
theorem dX7_light_9 : decode cX7_light 9 = .ok (.i2l, 1) := by decide +kernel
theorem dX7_light_10 : decode cX7_light 10 = .ok (.lconst 0, 1) := by decide +kernel
theorem dX7_light_11 : decode cX7_light 11 = .ok (.ldc2_w 191, 3) := by decide +kernel
theorem dX7_light_14 : decode cX7_light 14 = .ok (.invokestatic 95, 3) := by decide +kernel
theorem dX7_light_17 : decode cX7_light 17 = .ok (.ifCond .ne 7, 3) := by decide +kernel
theorem dX7_light_20 : decode cX7_light 20 = .ok (.ldc2_w 193, 3) := by decide +kernel
theorem dX7_light_23 : decode cX7_light 23 = .ok (.lreturn, 1) := by decide +kernel
theorem dX7_light_24 : decode cX7_light 24 = .ok (.aload_n 0, 1) := by decide +kernel
theorem dX7_light_25 : decode cX7_light 25 = .ok (.iload_n 1, 1) := by decide +kernel
theorem dX7_light_26 : decode cX7_light 26 = .ok (.invokevirtual 195, 3) := by decide +kernel
theorem dX7_light_29 : decode cX7_light 29 = .ok (.aload_n 0, 1) := by decide +kernel
theorem dX7_light_30 : decode cX7_light 30 = .ok (.getfield 21, 3) := by decide +kernel
theorem dX7_light_33 : decode cX7_light 33 = .ok (.iload_n 2, 1) := by decide +kernel
theorem dX7_light_34 : decode cX7_light 34 = .ok (.laload, 1) := by decide +kernel
theorem dX7_light_35 : decode cX7_light 35 = .ok (.lreturn, 1) := by decide +kernel
theorem dX7_common_0 : decode cX7_common 0 = .ok (.lload_n 0, 1) := by decide +kernel
theorem dX7_common_1 : decode cX7_common 1 = .ok (.lconst 0, 1) := by decide +kernel
theorem dX7_common_2 : decode cX7_common 2 = .ok (.lcmp, 1) := by decide +kernel
theorem dX7_common_3 : decode cX7_common 3 = .ok (.ifCond .ge 8, 3) := by decide +kernel
theorem dX7_common_6 : decode cX7_common 6 = .ok (.lload_n 0, 1) := by decide +kernel
theorem dX7_common_7 : decode cX7_common 7 = .ok (.lneg, 1) := by decide +kernel
theorem dX7_common_8 : decode cX7_common 8 = .ok (.goto 4, 3) := by decide +kernel
theorem dX7_common_11 : decode cX7_common 11 = .ok (.lload_n 0, 1) := by decide +kernel
theorem dX7_common_12 : decode cX7_common 12 = .ok (.lstore 4, 2) := by decide +kernel
theorem dX7_common_14 : decode cX7_common 14 = .ok (.lload_n 2, 1) := by decide +kernel
theorem dX7_common_15 : decode cX7_common 15 = .ok (.lconst 0, 1) := by decide +kernel
theorem dX7_common_16 : decode cX7_common 16 = .ok (.lcmp, 1) := by decide +kernel
theorem dX7_common_17 : decode cX7_common 17 = .ok (.ifCond .ge 8, 3) := by decide +kernel
theorem dX7_common_20 : decode cX7_common 20 = .ok (.lload_n 2, 1) := by decide +kernel
theorem dX7_common_21 : decode cX7_common 21 = .ok (.lneg, 1) := by decide +kernel
theorem dX7_common_22 : decode cX7_common 22 = .ok (.goto 4, 3) := by decide +kernel
theorem dX7_common_25 : decode cX7_common 25 = .ok (.lload_n 2, 1) := by decide +kernel
theorem dX7_common_26 : decode cX7_common 26 = .ok (.lstore 6, 2) := by decide +kernel
theorem dX7_common_28 : decode cX7_common 28 = .ok (.lload 6, 2) := by decide +kernel
theorem dX7_common_30 : decode cX7_common 30 = .ok (.lconst 0, 1) := by decide +kernel
theorem dX7_common_31 : decode cX7_common 31 = .ok (.lcmp, 1) := by decide +kernel
theorem dX7_common_32 : decode cX7_common 32 = .ok (.ifCond .eq 21, 3) := by decide +kernel
theorem dX7_common_35 : decode cX7_common 35 = .ok (.lload 4, 2) := by decide +kernel
theorem dX7_common_37 : decode cX7_common 37 = .ok (.lload 6, 2) := by decide +kernel
theorem dX7_common_39 : decode cX7_common 39 = .ok (.lrem, 1) := by decide +kernel
theorem dX7_common_40 : decode cX7_common 40 = .ok (.lstore 8, 2) := by decide +kernel
theorem dX7_common_42 : decode cX7_common 42 = .ok (.lload 6, 2) := by decide +kernel
theorem dX7_common_44 : decode cX7_common 44 = .ok (.lstore 4, 2) := by decide +kernel
theorem dX7_common_46 : decode cX7_common 46 = .ok (.lload 8, 2) := by decide +kernel
theorem dX7_common_48 : decode cX7_common 48 = .ok (.lstore 6, 2) := by decide +kernel
theorem dX7_common_50 : decode cX7_common 50 = .ok (.goto (-22), 3) := by decide +kernel
theorem dX7_common_53 : decode cX7_common 53 = .ok (.lload 4, 2) := by decide +kernel
theorem dX7_common_55 : decode cX7_common 55 = .ok (.lreturn, 1) := by decide +kernel
theorem dX7_lowest_0 : decode cX7_lowest 0 = .ok (.lload_n 0, 1) := by decide +kernel
theorem dX7_lowest_1 : decode cX7_lowest 1 = .ok (.lload_n 2, 1) := by decide +kernel
theorem dX7_lowest_2 : decode cX7_lowest 2 = .ok (.invokestatic 198, 3) := by decide +kernel
theorem dX7_lowest_5 : decode cX7_lowest 5 = .ok (.lstore 5, 2) := by decide +kernel
theorem dX7_lowest_7 : decode cX7_lowest 7 = .ok (.iload 4, 2) := by decide +kernel
theorem dX7_lowest_9 : decode cX7_lowest 9 = .ok (.ifCond .ne 10, 3) := by decide +kernel
theorem dX7_lowest_12 : decode cX7_lowest 12 = .ok (.lload_n 0, 1) := by decide +kernel
theorem dX7_lowest_13 : decode cX7_lowest 13 = .ok (.lload 5, 2) := by decide +kernel
theorem dX7_lowest_15 : decode cX7_lowest 15 = .ok (.ldiv, 1) := by decide +kernel
theorem dX7_lowest_16 : decode cX7_lowest 16 = .ok (.goto 7, 3) := by decide +kernel
theorem dX7_lowest_19 : decode cX7_lowest 19 = .ok (.lload_n 2, 1) := by decide +kernel
theorem dX7_lowest_20 : decode cX7_lowest 20 = .ok (.lload 5, 2) := by decide +kernel
theorem dX7_lowest_22 : decode cX7_lowest 22 = .ok (.ldiv, 1) := by decide +kernel
theorem dX7_lowest_23 : decode cX7_lowest 23 = .ok (.lreturn, 1) := by decide +kernel
theorem dX7_leftNow_0 : decode cX7_leftNow 0 = .ok (.aload_n 0, 1) := by decide +kernel
theorem dX7_leftNow_1 : decode cX7_leftNow 1 = .ok (.getfield 21, 3) := by decide +kernel
theorem dX7_leftNow_4 : decode cX7_leftNow 4 = .ok (.iconst 0, 1) := by decide +kernel
theorem dX7_leftNow_5 : decode cX7_leftNow 5 = .ok (.laload, 1) := by decide +kernel
theorem dX7_leftNow_6 : decode cX7_leftNow 6 = .ok (.lconst 1, 1) := by decide +kernel
theorem dX7_leftNow_7 : decode cX7_leftNow 7 = .ok (.aload_n 0, 1) := by decide +kernel
theorem dX7_leftNow_8 : decode cX7_leftNow 8 = .ok (.getfield 21, 3) := by decide +kernel
theorem dX7_leftNow_11 : decode cX7_leftNow 11 = .ok (.iconst 4, 1) := by decide +kernel
theorem dX7_leftNow_12 : decode cX7_leftNow 12 = .ok (.laload, 1) := by decide +kernel
theorem dX7_leftNow_13 : decode cX7_leftNow 13 = .ok (.l2i, 1) := by decide +kernel
theorem dX7_leftNow_14 : decode cX7_leftNow 14 = .ok (.lshl, 1) := by decide +kernel
theorem dX7_leftNow_15 : decode cX7_leftNow 15 = .ok (.aload_n 0, 1) := by decide +kernel
theorem dX7_leftNow_16 : decode cX7_leftNow 16 = .ok (.getfield 11, 3) := by decide +kernel
theorem dX7_leftNow_19 : decode cX7_leftNow 19 = .ok (.iconst 0, 1) := by decide +kernel
theorem dX7_leftNow_20 : decode cX7_leftNow 20 = .ok (.laload, 1) := by decide +kernel
theorem dX7_leftNow_21 : decode cX7_leftNow 21 = .ok (.lmul, 1) := by decide +kernel
theorem dX7_leftNow_22 : decode cX7_leftNow 22 = .ok (.iload_n 1, 1) := by decide +kernel
theorem dX7_leftNow_23 : decode cX7_leftNow 23 = .ok (.invokestatic 202, 3) := by decide +kernel
theorem dX7_leftNow_26 : decode cX7_leftNow 26 = .ok (.lreturn, 1) := by decide +kernel
theorem dX7_isPart_0 : decode cX7_isPart 0 = .ok (.iload_n 0, 1) := by decide +kernel
theorem dX7_isPart_1 : decode cX7_isPart 1 = .ok (.i2l, 1) := by decide +kernel
theorem dX7_isPart_2 : decode cX7_isPart 2 = .ok (.lconst 0, 1) := by decide +kernel
theorem dX7_isPart_3 : decode cX7_isPart 3 = .ok (.lconst 1, 1) := by decide +kernel
theorem dX7_isPart_4 : decode cX7_isPart 4 = .ok (.invokestatic 95, 3) := by decide +kernel
theorem dX7_isPart_7 : decode cX7_isPart 7 = .ok (.ireturn, 1) := by decide +kernel
theorem dX7_left_0 : decode cX7_left 0 = .ok (.aload_n 0, 1) := by decide +kernel
theorem dX7_left_1 : decode cX7_left 1 = .ok (.iload_n 1, 1) := by decide +kernel
theorem dX7_left_2 : decode cX7_left 2 = .ok (.invokevirtual 188, 3) := by decide +kernel
theorem dX7_left_5 : decode cX7_left 5 = .ok (.ifCond .eq 21, 3) := by decide +kernel
theorem dX7_left_8 : decode cX7_left 8 = .ok (.iload_n 2, 1) := by decide +kernel
theorem dX7_left_9 : decode cX7_left 9 = .ok (.invokestatic 206, 3) := by decide +kernel
theorem dX7_left_12 : decode cX7_left 12 = .ok (.ifCond .eq 14, 3) := by decide +kernel
theorem dX7_left_15 : decode cX7_left 15 = .ok (.aload_n 0, 1) := by decide +kernel
theorem dX7_left_16 : decode cX7_left 16 = .ok (.getfield 11, 3) := by decide +kernel
theorem dX7_left_19 : decode cX7_left 19 = .ok (.iconst 0, 1) := by decide +kernel
theorem dX7_left_20 : decode cX7_left 20 = .ok (.laload, 1) := by decide +kernel
theorem dX7_left_21 : decode cX7_left 21 = .ok (.lconst 0, 1) := by decide +kernel
theorem dX7_left_22 : decode cX7_left 22 = .ok (.lcmp, 1) := by decide +kernel
theorem dX7_left_23 : decode cX7_left 23 = .ok (.ifCond .ne 7, 3) := by decide +kernel
theorem dX7_left_26 : decode cX7_left 26 = .ok (.ldc2_w 193, 3) := by decide +kernel
theorem dX7_left_29 : decode cX7_left 29 = .ok (.lreturn, 1) := by decide +kernel
theorem dX7_left_30 : decode cX7_left 30 = .ok (.aload_n 0, 1) := by decide +kernel
theorem dX7_left_31 : decode cX7_left 31 = .ok (.iload_n 1, 1) := by decide +kernel
theorem dX7_left_32 : decode cX7_left 32 = .ok (.invokevirtual 195, 3) := by decide +kernel
theorem dX7_left_35 : decode cX7_left 35 = .ok (.aload_n 0, 1) := by decide +kernel
theorem dX7_left_36 : decode cX7_left 36 = .ok (.iload_n 2, 1) := by decide +kernel
theorem dX7_left_37 : decode cX7_left 37 = .ok (.invokevirtual 209, 3) := by decide +kernel
theorem dX7_left_40 : decode cX7_left 40 = .ok (.lreturn, 1) := by decide +kernel
theorem dX7_findsDegree_0 : decode cX7_findsDegree 0 = .ok (.aload_n 0, 1) := by decide +kernel
theorem dX7_findsDegree_1 : decode cX7_findsDegree 1 = .ok (.getfield 21, 3) := by decide +kernel
theorem dX7_findsDegree_4 : decode cX7_findsDegree 4 = .ok (.iconst 0, 1) := by decide +kernel
theorem dX7_findsDegree_5 : decode cX7_findsDegree 5 = .ok (.laload, 1) := by decide +kernel
theorem dX7_findsDegree_6 : decode cX7_findsDegree 6 = .ok (.aload_n 0, 1) := by decide +kernel
theorem dX7_findsDegree_7 : decode cX7_findsDegree 7 = .ok (.getfield 21, 3) := by decide +kernel
theorem dX7_findsDegree_10 : decode cX7_findsDegree 10 = .ok (.iconst 1, 1) := by decide +kernel
theorem dX7_findsDegree_11 : decode cX7_findsDegree 11 = .ok (.laload, 1) := by decide +kernel
theorem dX7_findsDegree_12 : decode cX7_findsDegree 12 = .ok (.invokestatic 198, 3) := by decide +kernel
theorem dX7_findsDegree_15 : decode cX7_findsDegree 15 = .ok (.aload_n 0, 1) := by decide +kernel
theorem dX7_findsDegree_16 : decode cX7_findsDegree 16 = .ok (.getfield 21, 3) := by decide +kernel
theorem dX7_findsDegree_19 : decode cX7_findsDegree 19 = .ok (.iconst 2, 1) := by decide +kernel
theorem dX7_findsDegree_20 : decode cX7_findsDegree 20 = .ok (.laload, 1) := by decide +kernel
theorem dX7_findsDegree_21 : decode cX7_findsDegree 21 = .ok (.aload_n 0, 1) := by decide +kernel
theorem dX7_findsDegree_22 : decode cX7_findsDegree 22 = .ok (.getfield 21, 3) := by decide +kernel
theorem dX7_findsDegree_25 : decode cX7_findsDegree 25 = .ok (.iconst 3, 1) := by decide +kernel
theorem dX7_findsDegree_26 : decode cX7_findsDegree 26 = .ok (.laload, 1) := by decide +kernel
theorem dX7_findsDegree_27 : decode cX7_findsDegree 27 = .ok (.invokestatic 198, 3) := by decide +kernel
theorem dX7_findsDegree_30 : decode cX7_findsDegree 30 = .ok (.invokestatic 198, 3) := by decide +kernel
theorem dX7_findsDegree_33 : decode cX7_findsDegree 33 = .ok (.lstore_n 1, 1) := by decide +kernel
theorem dX7_findsDegree_34 : decode cX7_findsDegree 34 = .ok (.lconst 0, 1) := by decide +kernel
theorem dX7_findsDegree_35 : decode cX7_findsDegree 35 = .ok (.lstore_n 3, 1) := by decide +kernel
theorem dX7_findsDegree_36 : decode cX7_findsDegree 36 = .ok (.iconst (-1), 1) := by decide +kernel
theorem dX7_findsDegree_37 : decode cX7_findsDegree 37 = .ok (.istore 5, 2) := by decide +kernel
theorem dX7_findsDegree_39 : decode cX7_findsDegree 39 = .ok (.iconst 1, 1) := by decide +kernel
theorem dX7_findsDegree_40 : decode cX7_findsDegree 40 = .ok (.istore 6, 2) := by decide +kernel
theorem dX7_findsDegree_42 : decode cX7_findsDegree 42 = .ok (.iload 6, 2) := by decide +kernel
theorem dX7_findsDegree_44 : decode cX7_findsDegree 44 = .ok (.iconst 4, 1) := by decide +kernel
theorem dX7_findsDegree_45 : decode cX7_findsDegree 45 = .ok (.if_icmp .ge 45, 3) := by decide +kernel
theorem dX7_findsDegree_48 : decode cX7_findsDegree 48 = .ok (.iload 5, 2) := by decide +kernel
theorem dX7_findsDegree_50 : decode cX7_findsDegree 50 = .ok (.ifCond .ge 40, 3) := by decide +kernel
theorem dX7_findsDegree_53 : decode cX7_findsDegree 53 = .ok (.aload_n 0, 1) := by decide +kernel
theorem dX7_findsDegree_54 : decode cX7_findsDegree 54 = .ok (.getfield 21, 3) := by decide +kernel
theorem dX7_findsDegree_57 : decode cX7_findsDegree 57 = .ok (.iload 6, 2) := by decide +kernel
theorem dX7_findsDegree_59 : decode cX7_findsDegree 59 = .ok (.laload, 1) := by decide +kernel
theorem dX7_findsDegree_60 : decode cX7_findsDegree 60 = .ok (.lload_n 1, 1) := by decide +kernel
theorem dX7_findsDegree_61 : decode cX7_findsDegree 61 = .ok (.ldiv, 1) := by decide +kernel
theorem dX7_findsDegree_62 : decode cX7_findsDegree 62 = .ok (.ldc2_w 213, 3) := by decide +kernel
theorem dX7_findsDegree_65 : decode cX7_findsDegree 65 = .ok (.ldc2_w 215, 3) := by decide +kernel
theorem dX7_findsDegree_68 : decode cX7_findsDegree 68 = .ok (.invokestatic 95, 3) := by decide +kernel
theorem dX7_findsDegree_71 : decode cX7_findsDegree 71 = .ok (.ifCond .eq 7, 3) := by decide +kernel
theorem dX7_findsDegree_74 : decode cX7_findsDegree 74 = .ok (.iconst (-1), 1) := by decide +kernel
theorem dX7_findsDegree_75 : decode cX7_findsDegree 75 = .ok (.goto 7, 3) := by decide +kernel
theorem dX7_findsDegree_78 : decode cX7_findsDegree 78 = .ok (.iload 6, 2) := by decide +kernel
theorem dX7_findsDegree_80 : decode cX7_findsDegree 80 = .ok (.iconst 1, 1) := by decide +kernel
theorem dX7_findsDegree_81 : decode cX7_findsDegree 81 = .ok (.isub, 1) := by decide +kernel
theorem dX7_findsDegree_82 : decode cX7_findsDegree 82 = .ok (.istore 5, 2) := by decide +kernel
theorem dX7_findsDegree_84 : decode cX7_findsDegree 84 = .ok (.iinc 6 1, 3) := by decide +kernel
theorem dX7_findsDegree_87 : decode cX7_findsDegree 87 = .ok (.goto (-45), 3) := by decide +kernel
theorem dX7_findsDegree_90 : decode cX7_findsDegree 90 = .ok (.iload 5, 2) := by decide +kernel
theorem dX7_findsDegree_92 : decode cX7_findsDegree 92 = .ok (.ifCond .ge 121, 3) := by decide +kernel
theorem dX7_findsDegree_95 : decode cX7_findsDegree 95 = .ok (.aload_n 0, 1) := by decide +kernel
theorem dX7_findsDegree_96 : decode cX7_findsDegree 96 = .ok (.getfield 21, 3) := by decide +kernel
theorem dX7_findsDegree_99 : decode cX7_findsDegree 99 = .ok (.iconst 1, 1) := by decide +kernel
theorem dX7_findsDegree_100 : decode cX7_findsDegree 100 = .ok (.laload, 1) := by decide +kernel
theorem dX7_findsDegree_101 : decode cX7_findsDegree 101 = .ok (.lload_n 1, 1) := by decide +kernel
theorem dX7_findsDegree_102 : decode cX7_findsDegree 102 = .ok (.ldiv, 1) := by decide +kernel
theorem dX7_findsDegree_103 : decode cX7_findsDegree 103 = .ok (.aload_n 0, 1) := by decide +kernel
theorem dX7_findsDegree_104 : decode cX7_findsDegree 104 = .ok (.getfield 21, 3) := by decide +kernel
theorem dX7_findsDegree_107 : decode cX7_findsDegree 107 = .ok (.iconst 1, 1) := by decide +kernel
theorem dX7_findsDegree_108 : decode cX7_findsDegree 108 = .ok (.laload, 1) := by decide +kernel
theorem dX7_findsDegree_109 : decode cX7_findsDegree 109 = .ok (.lload_n 1, 1) := by decide +kernel
theorem dX7_findsDegree_110 : decode cX7_findsDegree 110 = .ok (.ldiv, 1) := by decide +kernel
theorem dX7_findsDegree_111 : decode cX7_findsDegree 111 = .ok (.lmul, 1) := by decide +kernel
theorem dX7_findsDegree_112 : decode cX7_findsDegree 112 = .ok (.lstore 6, 2) := by decide +kernel
theorem dX7_findsDegree_114 : decode cX7_findsDegree 114 = .ok (.aload_n 0, 1) := by decide +kernel
theorem dX7_findsDegree_115 : decode cX7_findsDegree 115 = .ok (.getfield 21, 3) := by decide +kernel
theorem dX7_findsDegree_118 : decode cX7_findsDegree 118 = .ok (.iconst 2, 1) := by decide +kernel
theorem dX7_findsDegree_119 : decode cX7_findsDegree 119 = .ok (.laload, 1) := by decide +kernel
theorem dX7_findsDegree_120 : decode cX7_findsDegree 120 = .ok (.lload_n 1, 1) := by decide +kernel
theorem dX7_findsDegree_121 : decode cX7_findsDegree 121 = .ok (.ldiv, 1) := by decide +kernel
theorem dX7_findsDegree_122 : decode cX7_findsDegree 122 = .ok (.aload_n 0, 1) := by decide +kernel
theorem dX7_findsDegree_123 : decode cX7_findsDegree 123 = .ok (.getfield 21, 3) := by decide +kernel
theorem dX7_findsDegree_126 : decode cX7_findsDegree 126 = .ok (.iconst 2, 1) := by decide +kernel
theorem dX7_findsDegree_127 : decode cX7_findsDegree 127 = .ok (.laload, 1) := by decide +kernel
theorem dX7_findsDegree_128 : decode cX7_findsDegree 128 = .ok (.lload_n 1, 1) := by decide +kernel
theorem dX7_findsDegree_129 : decode cX7_findsDegree 129 = .ok (.ldiv, 1) := by decide +kernel
theorem dX7_findsDegree_130 : decode cX7_findsDegree 130 = .ok (.lmul, 1) := by decide +kernel
theorem dX7_findsDegree_131 : decode cX7_findsDegree 131 = .ok (.lstore 8, 2) := by decide +kernel
theorem dX7_findsDegree_133 : decode cX7_findsDegree 133 = .ok (.aload_n 0, 1) := by decide +kernel
theorem dX7_findsDegree_134 : decode cX7_findsDegree 134 = .ok (.getfield 21, 3) := by decide +kernel
theorem dX7_findsDegree_137 : decode cX7_findsDegree 137 = .ok (.iconst 3, 1) := by decide +kernel
theorem dX7_findsDegree_138 : decode cX7_findsDegree 138 = .ok (.laload, 1) := by decide +kernel
theorem dX7_findsDegree_139 : decode cX7_findsDegree 139 = .ok (.lload_n 1, 1) := by decide +kernel
theorem dX7_findsDegree_140 : decode cX7_findsDegree 140 = .ok (.ldiv, 1) := by decide +kernel
theorem dX7_findsDegree_141 : decode cX7_findsDegree 141 = .ok (.aload_n 0, 1) := by decide +kernel
theorem dX7_findsDegree_142 : decode cX7_findsDegree 142 = .ok (.getfield 21, 3) := by decide +kernel
theorem dX7_findsDegree_145 : decode cX7_findsDegree 145 = .ok (.iconst 3, 1) := by decide +kernel
theorem dX7_findsDegree_146 : decode cX7_findsDegree 146 = .ok (.laload, 1) := by decide +kernel
theorem dX7_findsDegree_147 : decode cX7_findsDegree 147 = .ok (.lload_n 1, 1) := by decide +kernel
theorem dX7_findsDegree_148 : decode cX7_findsDegree 148 = .ok (.ldiv, 1) := by decide +kernel
theorem dX7_findsDegree_149 : decode cX7_findsDegree 149 = .ok (.lmul, 1) := by decide +kernel
theorem dX7_findsDegree_150 : decode cX7_findsDegree 150 = .ok (.lstore 10, 2) := by decide +kernel
theorem dX7_findsDegree_152 : decode cX7_findsDegree 152 = .ok (.lload 6, 2) := by decide +kernel
theorem dX7_findsDegree_154 : decode cX7_findsDegree 154 = .ok (.lload 8, 2) := by decide +kernel
theorem dX7_findsDegree_156 : decode cX7_findsDegree 156 = .ok (.ladd, 1) := by decide +kernel
theorem dX7_findsDegree_157 : decode cX7_findsDegree 157 = .ok (.lstore_n 3, 1) := by decide +kernel
theorem dX7_findsDegree_158 : decode cX7_findsDegree 158 = .ok (.lload_n 3, 1) := by decide +kernel
theorem dX7_findsDegree_159 : decode cX7_findsDegree 159 = .ok (.lconst 0, 1) := by decide +kernel
theorem dX7_findsDegree_160 : decode cX7_findsDegree 160 = .ok (.lcmp, 1) := by decide +kernel
theorem dX7_findsDegree_161 : decode cX7_findsDegree 161 = .ok (.ifCond .ge 7, 3) := by decide +kernel
theorem dX7_findsDegree_164 : decode cX7_findsDegree 164 = .ok (.iconst 3, 1) := by decide +kernel
theorem dX7_findsDegree_165 : decode cX7_findsDegree 165 = .ok (.goto 41, 3) := by decide +kernel
theorem dX7_findsDegree_168 : decode cX7_findsDegree 168 = .ok (.lload_n 3, 1) := by decide +kernel
theorem dX7_findsDegree_169 : decode cX7_findsDegree 169 = .ok (.lload 10, 2) := by decide +kernel
theorem dX7_findsDegree_171 : decode cX7_findsDegree 171 = .ok (.ladd, 1) := by decide +kernel
theorem dX7_findsDegree_172 : decode cX7_findsDegree 172 = .ok (.lconst 0, 1) := by decide +kernel
theorem dX7_findsDegree_173 : decode cX7_findsDegree 173 = .ok (.lcmp, 1) := by decide +kernel
theorem dX7_findsDegree_174 : decode cX7_findsDegree 174 = .ok (.ifCond .ge 7, 3) := by decide +kernel
theorem dX7_findsDegree_177 : decode cX7_findsDegree 177 = .ok (.iconst 4, 1) := by decide +kernel
theorem dX7_findsDegree_178 : decode cX7_findsDegree 178 = .ok (.goto 28, 3) := by decide +kernel
theorem dX7_findsDegree_181 : decode cX7_findsDegree 181 = .ok (.aload_n 0, 1) := by decide +kernel
theorem dX7_findsDegree_182 : decode cX7_findsDegree 182 = .ok (.getfield 21, 3) := by decide +kernel
theorem dX7_findsDegree_185 : decode cX7_findsDegree 185 = .ok (.iconst 0, 1) := by decide +kernel
theorem dX7_findsDegree_186 : decode cX7_findsDegree 186 = .ok (.laload, 1) := by decide +kernel
theorem dX7_findsDegree_187 : decode cX7_findsDegree 187 = .ok (.lload_n 1, 1) := by decide +kernel
theorem dX7_findsDegree_188 : decode cX7_findsDegree 188 = .ok (.ldiv, 1) := by decide +kernel
theorem dX7_findsDegree_189 : decode cX7_findsDegree 189 = .ok (.ldc2_w 213, 3) := by decide +kernel
theorem dX7_findsDegree_192 : decode cX7_findsDegree 192 = .ok (.ldc2_w 215, 3) := by decide +kernel
theorem dX7_findsDegree_195 : decode cX7_findsDegree 195 = .ok (.invokestatic 95, 3) := by decide +kernel
theorem dX7_findsDegree_198 : decode cX7_findsDegree 198 = .ok (.ifCond .eq 7, 3) := by decide +kernel
theorem dX7_findsDegree_201 : decode cX7_findsDegree 201 = .ok (.iconst (-1), 1) := by decide +kernel
theorem dX7_findsDegree_202 : decode cX7_findsDegree 202 = .ok (.goto 4, 3) := by decide +kernel
theorem dX7_findsDegree_205 : decode cX7_findsDegree 205 = .ok (.iconst 5, 1) := by decide +kernel
theorem dX7_findsDegree_206 : decode cX7_findsDegree 206 = .ok (.istore 5, 2) := by decide +kernel
theorem dX7_findsDegree_208 : decode cX7_findsDegree 208 = .ok (.lload_n 3, 1) := by decide +kernel
theorem dX7_findsDegree_209 : decode cX7_findsDegree 209 = .ok (.lload 10, 2) := by decide +kernel
theorem dX7_findsDegree_211 : decode cX7_findsDegree 211 = .ok (.ladd, 1) := by decide +kernel
theorem dX7_findsDegree_212 : decode cX7_findsDegree 212 = .ok (.lstore_n 3, 1) := by decide +kernel
theorem dX7_findsDegree_213 : decode cX7_findsDegree 213 = .ok (.iload 5, 2) := by decide +kernel
theorem dX7_findsDegree_215 : decode cX7_findsDegree 215 = .ok (.ifCond .lt 17, 3) := by decide +kernel
theorem dX7_findsDegree_218 : decode cX7_findsDegree 218 = .ok (.aload_n 0, 1) := by decide +kernel
theorem dX7_findsDegree_219 : decode cX7_findsDegree 219 = .ok (.iconst 0, 1) := by decide +kernel
theorem dX7_findsDegree_220 : decode cX7_findsDegree 220 = .ok (.putfield 217, 3) := by decide +kernel
theorem dX7_findsDegree_223 : decode cX7_findsDegree 223 = .ok (.aload_n 0, 1) := by decide +kernel
theorem dX7_findsDegree_224 : decode cX7_findsDegree 224 = .ok (.iconst 4, 1) := by decide +kernel
theorem dX7_findsDegree_225 : decode cX7_findsDegree 225 = .ok (.iload 5, 2) := by decide +kernel
theorem dX7_findsDegree_227 : decode cX7_findsDegree 227 = .ok (.invokevirtual 220, 3) := by decide +kernel
theorem dX7_findsDegree_230 : decode cX7_findsDegree 230 = .ok (.iconst 0, 1) := by decide +kernel
theorem dX7_findsDegree_231 : decode cX7_findsDegree 231 = .ok (.ireturn, 1) := by decide +kernel
theorem dX7_findsDegree_232 : decode cX7_findsDegree 232 = .ok (.aload_n 0, 1) := by decide +kernel
theorem dX7_findsDegree_233 : decode cX7_findsDegree 233 = .ok (.lload_n 3, 1) := by decide +kernel
theorem dX7_findsDegree_234 : decode cX7_findsDegree 234 = .ok (.putfield 224, 3) := by decide +kernel
theorem dX7_findsDegree_237 : decode cX7_findsDegree 237 = .ok (.aload_n 0, 1) := by decide +kernel
theorem dX7_findsDegree_238 : decode cX7_findsDegree 238 = .ok (.aload_n 0, 1) := by decide +kernel
theorem dX7_findsDegree_239 : decode cX7_findsDegree 239 = .ok (.getfield 21, 3) := by decide +kernel
theorem dX7_findsDegree_242 : decode cX7_findsDegree 242 = .ok (.iconst 0, 1) := by decide +kernel
theorem dX7_findsDegree_243 : decode cX7_findsDegree 243 = .ok (.laload, 1) := by decide +kernel
theorem dX7_findsDegree_244 : decode cX7_findsDegree 244 = .ok (.lload_n 1, 1) := by decide +kernel
theorem dX7_findsDegree_245 : decode cX7_findsDegree 245 = .ok (.ldiv, 1) := by decide +kernel
theorem dX7_findsDegree_246 : decode cX7_findsDegree 246 = .ok (.aload_n 0, 1) := by decide +kernel
theorem dX7_findsDegree_247 : decode cX7_findsDegree 247 = .ok (.getfield 21, 3) := by decide +kernel
theorem dX7_findsDegree_250 : decode cX7_findsDegree 250 = .ok (.iconst 0, 1) := by decide +kernel
theorem dX7_findsDegree_251 : decode cX7_findsDegree 251 = .ok (.laload, 1) := by decide +kernel
theorem dX7_findsDegree_252 : decode cX7_findsDegree 252 = .ok (.lload_n 1, 1) := by decide +kernel
theorem dX7_findsDegree_253 : decode cX7_findsDegree 253 = .ok (.ldiv, 1) := by decide +kernel
theorem dX7_findsDegree_254 : decode cX7_findsDegree 254 = .ok (.lmul, 1) := by decide +kernel
theorem dX7_findsDegree_255 : decode cX7_findsDegree 255 = .ok (.putfield 228, 3) := by decide +kernel
theorem dX7_findsDegree_258 : decode cX7_findsDegree 258 = .ok (.iconst 1, 1) := by decide +kernel
theorem dX7_findsDegree_259 : decode cX7_findsDegree 259 = .ok (.ireturn, 1) := by decide +kernel
theorem dX7_degree_0 : decode cX7_degree 0 = .ok (.aload_n 0, 1) := by decide +kernel
theorem dX7_degree_1 : decode cX7_degree 1 = .ok (.iload_n 1, 1) := by decide +kernel
theorem dX7_degree_2 : decode cX7_degree 2 = .ok (.invokevirtual 188, 3) := by decide +kernel
theorem dX7_degree_5 : decode cX7_degree 5 = .ok (.ifCond .eq 10, 3) := by decide +kernel
theorem dX7_degree_8 : decode cX7_degree 8 = .ok (.iload_n 2, 1) := by decide +kernel
theorem dX7_degree_9 : decode cX7_degree 9 = .ok (.invokestatic 206, 3) := by decide +kernel
theorem dX7_degree_12 : decode cX7_degree 12 = .ok (.ifCond .ne 7, 3) := by decide +kernel
theorem dX7_degree_15 : decode cX7_degree 15 = .ok (.ldc2_w 193, 3) := by decide +kernel
theorem dX7_degree_18 : decode cX7_degree 18 = .ok (.lreturn, 1) := by decide +kernel
theorem dX7_degree_19 : decode cX7_degree 19 = .ok (.aload_n 0, 1) := by decide +kernel
theorem dX7_degree_20 : decode cX7_degree 20 = .ok (.iload_n 1, 1) := by decide +kernel
theorem dX7_degree_21 : decode cX7_degree 21 = .ok (.invokevirtual 195, 3) := by decide +kernel
theorem dX7_degree_24 : decode cX7_degree 24 = .ok (.aload_n 0, 1) := by decide +kernel
theorem dX7_degree_25 : decode cX7_degree 25 = .ok (.getfield 21, 3) := by decide +kernel
theorem dX7_degree_28 : decode cX7_degree 28 = .ok (.iconst 0, 1) := by decide +kernel
theorem dX7_degree_29 : decode cX7_degree 29 = .ok (.laload, 1) := by decide +kernel
theorem dX7_degree_30 : decode cX7_degree 30 = .ok (.lconst 0, 1) := by decide +kernel
theorem dX7_degree_31 : decode cX7_degree 31 = .ok (.lcmp, 1) := by decide +kernel
theorem dX7_degree_32 : decode cX7_degree 32 = .ok (.ifCond .eq 10, 3) := by decide +kernel
theorem dX7_degree_35 : decode cX7_degree 35 = .ok (.aload_n 0, 1) := by decide +kernel
theorem dX7_degree_36 : decode cX7_degree 36 = .ok (.invokevirtual 231, 3) := by decide +kernel
theorem dX7_degree_39 : decode cX7_degree 39 = .ok (.ifCond .ne 9, 3) := by decide +kernel
theorem dX7_degree_42 : decode cX7_degree 42 = .ok (.ldc2_w 193, 3) := by decide +kernel
theorem dX7_degree_45 : decode cX7_degree 45 = .ok (.goto 15, 3) := by decide +kernel
theorem dX7_degree_48 : decode cX7_degree 48 = .ok (.aload_n 0, 1) := by decide +kernel
theorem dX7_degree_49 : decode cX7_degree 49 = .ok (.getfield 224, 3) := by decide +kernel
theorem dX7_degree_52 : decode cX7_degree 52 = .ok (.aload_n 0, 1) := by decide +kernel
theorem dX7_degree_53 : decode cX7_degree 53 = .ok (.getfield 228, 3) := by decide +kernel
theorem dX7_degree_56 : decode cX7_degree 56 = .ok (.iload_n 2, 1) := by decide +kernel
theorem dX7_degree_57 : decode cX7_degree 57 = .ok (.invokestatic 202, 3) := by decide +kernel
theorem dX7_degree_60 : decode cX7_degree 60 = .ok (.lreturn, 1) := by decide +kernel
theorem dX7_sort_0 : decode cX7_sort 0 = .ok (.aload_n 0, 1) := by decide +kernel
theorem dX7_sort_1 : decode cX7_sort 1 = .ok (.iload_n 1, 1) := by decide +kernel
theorem dX7_sort_2 : decode cX7_sort 2 = .ok (.invokevirtual 188, 3) := by decide +kernel
theorem dX7_sort_5 : decode cX7_sort 5 = .ok (.ifCond .ne 5, 3) := by decide +kernel
theorem dX7_sort_8 : decode cX7_sort 8 = .ok (.iconst (-1), 1) := by decide +kernel
theorem dX7_sort_9 : decode cX7_sort 9 = .ok (.ireturn, 1) := by decide +kernel
theorem dX7_sort_10 : decode cX7_sort 10 = .ok (.aload_n 0, 1) := by decide +kernel
theorem dX7_sort_11 : decode cX7_sort 11 = .ok (.iload_n 1, 1) := by decide +kernel
theorem dX7_sort_12 : decode cX7_sort 12 = .ok (.invokevirtual 195, 3) := by decide +kernel
theorem dX7_sort_15 : decode cX7_sort 15 = .ok (.aload_n 0, 1) := by decide +kernel
theorem dX7_sort_16 : decode cX7_sort 16 = .ok (.getfield 21, 3) := by decide +kernel
theorem dX7_sort_19 : decode cX7_sort 19 = .ok (.iconst 0, 1) := by decide +kernel
theorem dX7_sort_20 : decode cX7_sort 20 = .ok (.laload, 1) := by decide +kernel
theorem dX7_sort_21 : decode cX7_sort 21 = .ok (.lconst 0, 1) := by decide +kernel
theorem dX7_sort_22 : decode cX7_sort 22 = .ok (.lcmp, 1) := by decide +kernel
theorem dX7_sort_23 : decode cX7_sort 23 = .ok (.ifCond .ne 5, 3) := by decide +kernel
theorem dX7_sort_26 : decode cX7_sort 26 = .ok (.iconst 0, 1) := by decide +kernel
theorem dX7_sort_27 : decode cX7_sort 27 = .ok (.ireturn, 1) := by decide +kernel
theorem dX7_sort_28 : decode cX7_sort 28 = .ok (.aload_n 0, 1) := by decide +kernel
theorem dX7_sort_29 : decode cX7_sort 29 = .ok (.getfield 21, 3) := by decide +kernel
theorem dX7_sort_32 : decode cX7_sort 32 = .ok (.iconst 1, 1) := by decide +kernel
theorem dX7_sort_33 : decode cX7_sort 33 = .ok (.laload, 1) := by decide +kernel
theorem dX7_sort_34 : decode cX7_sort 34 = .ok (.lconst 0, 1) := by decide +kernel
theorem dX7_sort_35 : decode cX7_sort 35 = .ok (.lcmp, 1) := by decide +kernel
theorem dX7_sort_36 : decode cX7_sort 36 = .ok (.ifCond .ne 18, 3) := by decide +kernel
theorem dX7_sort_39 : decode cX7_sort 39 = .ok (.aload_n 0, 1) := by decide +kernel
theorem dX7_sort_40 : decode cX7_sort 40 = .ok (.getfield 21, 3) := by decide +kernel
theorem dX7_sort_43 : decode cX7_sort 43 = .ok (.iconst 2, 1) := by decide +kernel
theorem dX7_sort_44 : decode cX7_sort 44 = .ok (.laload, 1) := by decide +kernel
theorem dX7_sort_45 : decode cX7_sort 45 = .ok (.lconst 0, 1) := by decide +kernel
theorem dX7_sort_46 : decode cX7_sort 46 = .ok (.lcmp, 1) := by decide +kernel
theorem dX7_sort_47 : decode cX7_sort 47 = .ok (.ifCond .ne 7, 3) := by decide +kernel
theorem dX7_sort_50 : decode cX7_sort 50 = .ok (.iconst 1, 1) := by decide +kernel
theorem dX7_sort_51 : decode cX7_sort 51 = .ok (.goto 4, 3) := by decide +kernel
theorem dX7_sort_54 : decode cX7_sort 54 = .ok (.iconst 0, 1) := by decide +kernel
theorem dX7_sort_55 : decode cX7_sort 55 = .ok (.istore_n 2, 1) := by decide +kernel
theorem dX7_sort_56 : decode cX7_sort 56 = .ok (.iload_n 2, 1) := by decide +kernel
theorem dX7_sort_57 : decode cX7_sort 57 = .ok (.ifCond .eq 16, 3) := by decide +kernel
theorem dX7_sort_60 : decode cX7_sort 60 = .ok (.aload_n 0, 1) := by decide +kernel
theorem dX7_sort_61 : decode cX7_sort 61 = .ok (.getfield 21, 3) := by decide +kernel
theorem dX7_sort_64 : decode cX7_sort 64 = .ok (.iconst 3, 1) := by decide +kernel
theorem dX7_sort_65 : decode cX7_sort 65 = .ok (.laload, 1) := by decide +kernel
theorem dX7_sort_66 : decode cX7_sort 66 = .ok (.lconst 0, 1) := by decide +kernel
theorem dX7_sort_67 : decode cX7_sort 67 = .ok (.lcmp, 1) := by decide +kernel
theorem dX7_sort_68 : decode cX7_sort 68 = .ok (.ifCond .ne 5, 3) := by decide +kernel
theorem dX7_sort_71 : decode cX7_sort 71 = .ok (.iconst 1, 1) := by decide +kernel
theorem dX7_sort_72 : decode cX7_sort 72 = .ok (.ireturn, 1) := by decide +kernel
theorem dX7_sort_73 : decode cX7_sort 73 = .ok (.aload_n 0, 1) := by decide +kernel
theorem dX7_sort_74 : decode cX7_sort 74 = .ok (.invokevirtual 231, 3) := by decide +kernel
theorem dX7_sort_77 : decode cX7_sort 77 = .ok (.ifCond .ne 6, 3) := by decide +kernel
theorem dX7_sort_80 : decode cX7_sort 80 = .ok (.bipush (-9), 2) := by decide +kernel
theorem dX7_sort_82 : decode cX7_sort 82 = .ok (.ireturn, 1) := by decide +kernel
theorem dX7_sort_83 : decode cX7_sort 83 = .ok (.aload_n 0, 1) := by decide +kernel
theorem dX7_sort_84 : decode cX7_sort 84 = .ok (.getfield 224, 3) := by decide +kernel
theorem dX7_sort_87 : decode cX7_sort 87 = .ok (.aload_n 0, 1) := by decide +kernel
theorem dX7_sort_88 : decode cX7_sort 88 = .ok (.getfield 228, 3) := by decide +kernel
theorem dX7_sort_91 : decode cX7_sort 91 = .ok (.lcmp, 1) := by decide +kernel
theorem dX7_sort_92 : decode cX7_sort 92 = .ok (.ifCond .eq 7, 3) := by decide +kernel
theorem dX7_sort_95 : decode cX7_sort 95 = .ok (.iconst 5, 1) := by decide +kernel
theorem dX7_sort_96 : decode cX7_sort 96 = .ok (.goto 27, 3) := by decide +kernel
theorem dX7_sort_99 : decode cX7_sort 99 = .ok (.aload_n 0, 1) := by decide +kernel
theorem dX7_sort_100 : decode cX7_sort 100 = .ok (.getfield 21, 3) := by decide +kernel
theorem dX7_sort_103 : decode cX7_sort 103 = .ok (.iconst 3, 1) := by decide +kernel
theorem dX7_sort_104 : decode cX7_sort 104 = .ok (.laload, 1) := by decide +kernel
theorem dX7_sort_105 : decode cX7_sort 105 = .ok (.lconst 0, 1) := by decide +kernel
theorem dX7_sort_106 : decode cX7_sort 106 = .ok (.lcmp, 1) := by decide +kernel
theorem dX7_sort_107 : decode cX7_sort 107 = .ok (.ifCond .ne 7, 3) := by decide +kernel
theorem dX7_sort_110 : decode cX7_sort 110 = .ok (.iconst 2, 1) := by decide +kernel
theorem dX7_sort_111 : decode cX7_sort 111 = .ok (.goto 12, 3) := by decide +kernel
theorem dX7_sort_114 : decode cX7_sort 114 = .ok (.iload_n 2, 1) := by decide +kernel
theorem dX7_sort_115 : decode cX7_sort 115 = .ok (.ifCond .eq 7, 3) := by decide +kernel
theorem dX7_sort_118 : decode cX7_sort 118 = .ok (.iconst 3, 1) := by decide +kernel
theorem dX7_sort_119 : decode cX7_sort 119 = .ok (.goto 4, 3) := by decide +kernel
theorem dX7_sort_122 : decode cX7_sort 122 = .ok (.iconst 4, 1) := by decide +kernel
theorem dX7_sort_123 : decode cX7_sort 123 = .ok (.ireturn, 1) := by decide +kernel
theorem dX7_compared_0 : decode cX7_compared 0 = .ok (.lload_n 2, 1) := by decide +kernel
theorem dX7_compared_1 : decode cX7_compared 1 = .ok (.lload 6, 2) := by decide +kernel
theorem dX7_compared_3 : decode cX7_compared 3 = .ok (.lcmp, 1) := by decide +kernel
theorem dX7_compared_4 : decode cX7_compared 4 = .ok (.ifCond .ge 13, 3) := by decide +kernel
theorem dX7_compared_7 : decode cX7_compared 7 = .ok (.lload_n 0, 1) := by decide +kernel
theorem dX7_compared_8 : decode cX7_compared 8 = .ok (.lload 6, 2) := by decide +kernel
theorem dX7_compared_10 : decode cX7_compared 10 = .ok (.lload_n 2, 1) := by decide +kernel
theorem dX7_compared_11 : decode cX7_compared 11 = .ok (.lsub, 1) := by decide +kernel
theorem dX7_compared_12 : decode cX7_compared 12 = .ok (.l2i, 1) := by decide +kernel
theorem dX7_compared_13 : decode cX7_compared 13 = .ok (.lshl, 1) := by decide +kernel
theorem dX7_compared_14 : decode cX7_compared 14 = .ok (.goto 4, 3) := by decide +kernel
theorem dX7_compared_17 : decode cX7_compared 17 = .ok (.lload_n 0, 1) := by decide +kernel
theorem dX7_compared_18 : decode cX7_compared 18 = .ok (.lstore 8, 2) := by decide +kernel
theorem dX7_compared_20 : decode cX7_compared 20 = .ok (.lload 6, 2) := by decide +kernel
theorem dX7_compared_22 : decode cX7_compared 22 = .ok (.lload_n 2, 1) := by decide +kernel
theorem dX7_compared_23 : decode cX7_compared 23 = .ok (.lcmp, 1) := by decide +kernel
theorem dX7_compared_24 : decode cX7_compared 24 = .ok (.ifCond .ge 14, 3) := by decide +kernel
theorem dX7_compared_27 : decode cX7_compared 27 = .ok (.lload 4, 2) := by decide +kernel
theorem dX7_compared_29 : decode cX7_compared 29 = .ok (.lload_n 2, 1) := by decide +kernel
theorem dX7_compared_30 : decode cX7_compared 30 = .ok (.lload 6, 2) := by decide +kernel
theorem dX7_compared_32 : decode cX7_compared 32 = .ok (.lsub, 1) := by decide +kernel
theorem dX7_compared_33 : decode cX7_compared 33 = .ok (.l2i, 1) := by decide +kernel
theorem dX7_compared_34 : decode cX7_compared 34 = .ok (.lshl, 1) := by decide +kernel
theorem dX7_compared_35 : decode cX7_compared 35 = .ok (.goto 5, 3) := by decide +kernel
theorem dX7_compared_38 : decode cX7_compared 38 = .ok (.lload 4, 2) := by decide +kernel
theorem dX7_compared_40 : decode cX7_compared 40 = .ok (.lstore 10, 2) := by decide +kernel
theorem dX7_compared_42 : decode cX7_compared 42 = .ok (.lload 8, 2) := by decide +kernel
theorem dX7_compared_44 : decode cX7_compared 44 = .ok (.lload 10, 2) := by decide +kernel
theorem dX7_compared_46 : decode cX7_compared 46 = .ok (.lcmp, 1) := by decide +kernel
theorem dX7_compared_47 : decode cX7_compared 47 = .ok (.ifCond .ge 7, 3) := by decide +kernel
theorem dX7_compared_50 : decode cX7_compared 50 = .ok (.iconst (-1), 1) := by decide +kernel
theorem dX7_compared_51 : decode cX7_compared 51 = .ok (.goto 16, 3) := by decide +kernel
theorem dX7_compared_54 : decode cX7_compared 54 = .ok (.lload 8, 2) := by decide +kernel
theorem dX7_compared_56 : decode cX7_compared 56 = .ok (.lload 10, 2) := by decide +kernel
theorem dX7_compared_58 : decode cX7_compared 58 = .ok (.lcmp, 1) := by decide +kernel
theorem dX7_compared_59 : decode cX7_compared 59 = .ok (.ifCond .le 7, 3) := by decide +kernel
theorem dX7_compared_62 : decode cX7_compared 62 = .ok (.iconst 1, 1) := by decide +kernel
theorem dX7_compared_63 : decode cX7_compared 63 = .ok (.goto 4, 3) := by decide +kernel
theorem dX7_compared_66 : decode cX7_compared 66 = .ok (.iconst 0, 1) := by decide +kernel
theorem dX7_compared_67 : decode cX7_compared 67 = .ok (.ireturn, 1) := by decide +kernel
theorem dX7_areAlike_0 : decode cX7_areAlike 0 = .ok (.iconst 1, 1) := by decide +kernel
theorem dX7_areAlike_1 : decode cX7_areAlike 1 = .ok (.istore 4, 2) := by decide +kernel
theorem dX7_areAlike_3 : decode cX7_areAlike 3 = .ok (.iconst 0, 1) := by decide +kernel
theorem dX7_areAlike_4 : decode cX7_areAlike 4 = .ok (.istore 5, 2) := by decide +kernel
theorem dX7_areAlike_6 : decode cX7_areAlike 6 = .ok (.iload 5, 2) := by decide +kernel
theorem dX7_areAlike_8 : decode cX7_areAlike 8 = .ok (.iconst 5, 1) := by decide +kernel
theorem dX7_areAlike_9 : decode cX7_areAlike 9 = .ok (.if_icmp .ge 37, 3) := by decide +kernel
theorem dX7_areAlike_12 : decode cX7_areAlike 12 = .ok (.iload 4, 2) := by decide +kernel
theorem dX7_areAlike_14 : decode cX7_areAlike 14 = .ok (.ifCond .eq 23, 3) := by decide +kernel
theorem dX7_areAlike_17 : decode cX7_areAlike 17 = .ok (.aload_n 0, 1) := by decide +kernel
theorem dX7_areAlike_18 : decode cX7_areAlike 18 = .ok (.iload_n 1, 1) := by decide +kernel
theorem dX7_areAlike_19 : decode cX7_areAlike 19 = .ok (.iload 5, 2) := by decide +kernel
theorem dX7_areAlike_21 : decode cX7_areAlike 21 = .ok (.iadd, 1) := by decide +kernel
theorem dX7_areAlike_22 : decode cX7_areAlike 22 = .ok (.laload, 1) := by decide +kernel
theorem dX7_areAlike_23 : decode cX7_areAlike 23 = .ok (.aload_n 2, 1) := by decide +kernel
theorem dX7_areAlike_24 : decode cX7_areAlike 24 = .ok (.iload_n 3, 1) := by decide +kernel
theorem dX7_areAlike_25 : decode cX7_areAlike 25 = .ok (.iload 5, 2) := by decide +kernel
theorem dX7_areAlike_27 : decode cX7_areAlike 27 = .ok (.iadd, 1) := by decide +kernel
theorem dX7_areAlike_28 : decode cX7_areAlike 28 = .ok (.laload, 1) := by decide +kernel
theorem dX7_areAlike_29 : decode cX7_areAlike 29 = .ok (.lcmp, 1) := by decide +kernel
theorem dX7_areAlike_30 : decode cX7_areAlike 30 = .ok (.ifCond .ne 7, 3) := by decide +kernel
theorem dX7_areAlike_33 : decode cX7_areAlike 33 = .ok (.iconst 1, 1) := by decide +kernel
theorem dX7_areAlike_34 : decode cX7_areAlike 34 = .ok (.goto 4, 3) := by decide +kernel
theorem dX7_areAlike_37 : decode cX7_areAlike 37 = .ok (.iconst 0, 1) := by decide +kernel
theorem dX7_areAlike_38 : decode cX7_areAlike 38 = .ok (.istore 4, 2) := by decide +kernel
theorem dX7_areAlike_40 : decode cX7_areAlike 40 = .ok (.iinc 5 1, 3) := by decide +kernel
theorem dX7_areAlike_43 : decode cX7_areAlike 43 = .ok (.goto (-37), 3) := by decide +kernel
theorem dX7_areAlike_46 : decode cX7_areAlike 46 = .ok (.iload 4, 2) := by decide +kernel
theorem dX7_areAlike_48 : decode cX7_areAlike 48 = .ok (.ireturn, 1) := by decide +kernel
theorem dX7_sees_0 : decode cX7_sees 0 = .ok (.iconst 0, 1) := by decide +kernel
theorem dX7_sees_1 : decode cX7_sees 1 = .ok (.istore_n 1, 1) := by decide +kernel
theorem dX7_sees_2 : decode cX7_sees 2 = .ok (.iload_n 1, 1) := by decide +kernel
theorem dX7_sees_3 : decode cX7_sees 3 = .ok (.aload_n 0, 1) := by decide +kernel
theorem dX7_sees_4 : decode cX7_sees 4 = .ok (.getfield 235, 3) := by decide +kernel
theorem dX7_sees_7 : decode cX7_sees 7 = .ok (.if_icmp .ge 27, 3) := by decide +kernel
theorem dX7_sees_10 : decode cX7_sees 10 = .ok (.aload_n 0, 1) := by decide +kernel
theorem dX7_sees_11 : decode cX7_sees 11 = .ok (.getfield 27, 3) := by decide +kernel
theorem dX7_sees_14 : decode cX7_sees 14 = .ok (.iconst 5, 1) := by decide +kernel
theorem dX7_sees_15 : decode cX7_sees 15 = .ok (.iload_n 1, 1) := by decide +kernel
theorem dX7_sees_16 : decode cX7_sees 16 = .ok (.imul, 1) := by decide +kernel
theorem dX7_sees_17 : decode cX7_sees 17 = .ok (.aload_n 0, 1) := by decide +kernel
theorem dX7_sees_18 : decode cX7_sees 18 = .ok (.getfield 21, 3) := by decide +kernel
theorem dX7_sees_21 : decode cX7_sees 21 = .ok (.iconst 0, 1) := by decide +kernel
theorem dX7_sees_22 : decode cX7_sees 22 = .ok (.invokestatic 238, 3) := by decide +kernel
theorem dX7_sees_25 : decode cX7_sees 25 = .ok (.ifCond .ne 9, 3) := by decide +kernel
theorem dX7_sees_28 : decode cX7_sees 28 = .ok (.iinc 1 1, 3) := by decide +kernel
theorem dX7_sees_31 : decode cX7_sees 31 = .ok (.goto (-29), 3) := by decide +kernel
theorem dX7_sees_34 : decode cX7_sees 34 = .ok (.iload_n 1, 1) := by decide +kernel
theorem dX7_sees_35 : decode cX7_sees 35 = .ok (.aload_n 0, 1) := by decide +kernel
theorem dX7_sees_36 : decode cX7_sees 36 = .ok (.getfield 235, 3) := by decide +kernel
theorem dX7_sees_39 : decode cX7_sees 39 = .ok (.if_icmp .ne 36, 3) := by decide +kernel
theorem dX7_sees_42 : decode cX7_sees 42 = .ok (.aload_n 0, 1) := by decide +kernel
theorem dX7_sees_43 : decode cX7_sees 43 = .ok (.getfield 21, 3) := by decide +kernel
theorem dX7_sees_46 : decode cX7_sees 46 = .ok (.iconst 0, 1) := by decide +kernel
theorem dX7_sees_47 : decode cX7_sees 47 = .ok (.aload_n 0, 1) := by decide +kernel
theorem dX7_sees_48 : decode cX7_sees 48 = .ok (.getfield 27, 3) := by decide +kernel
theorem dX7_sees_51 : decode cX7_sees 51 = .ok (.iconst 5, 1) := by decide +kernel
theorem dX7_sees_52 : decode cX7_sees 52 = .ok (.iload_n 1, 1) := by decide +kernel
theorem dX7_sees_53 : decode cX7_sees 53 = .ok (.imul, 1) := by decide +kernel
theorem dX7_sees_54 : decode cX7_sees 54 = .ok (.iconst 5, 1) := by decide +kernel
theorem dX7_sees_55 : decode cX7_sees 55 = .ok (.invokestatic 140, 3) := by decide +kernel
theorem dX7_sees_58 : decode cX7_sees 58 = .ok (.aload_n 0, 1) := by decide +kernel
theorem dX7_sees_59 : decode cX7_sees 59 = .ok (.getfield 30, 3) := by decide +kernel
theorem dX7_sees_62 : decode cX7_sees 62 = .ok (.iload_n 1, 1) := by decide +kernel
theorem dX7_sees_63 : decode cX7_sees 63 = .ok (.iconst 0, 1) := by decide +kernel
theorem dX7_sees_64 : decode cX7_sees 64 = .ok (.iastore, 1) := by decide +kernel
theorem dX7_sees_65 : decode cX7_sees 65 = .ok (.aload_n 0, 1) := by decide +kernel
theorem dX7_sees_66 : decode cX7_sees 66 = .ok (.dup, 1) := by decide +kernel
theorem dX7_sees_67 : decode cX7_sees 67 = .ok (.getfield 235, 3) := by decide +kernel
theorem dX7_sees_70 : decode cX7_sees 70 = .ok (.iconst 1, 1) := by decide +kernel
theorem dX7_sees_71 : decode cX7_sees 71 = .ok (.iadd, 1) := by decide +kernel
theorem dX7_sees_72 : decode cX7_sees 72 = .ok (.putfield 235, 3) := by decide +kernel
theorem dX7_sees_75 : decode cX7_sees 75 = .ok (.aload_n 0, 1) := by decide +kernel
theorem dX7_sees_76 : decode cX7_sees 76 = .ok (.getfield 30, 3) := by decide +kernel
theorem dX7_sees_79 : decode cX7_sees 79 = .ok (.iload_n 1, 1) := by decide +kernel
theorem dX7_sees_80 : decode cX7_sees 80 = .ok (.dup2, 1) := by decide +kernel
theorem dX7_sees_81 : decode cX7_sees 81 = .ok (.iaload, 1) := by decide +kernel
theorem dX7_sees_82 : decode cX7_sees 82 = .ok (.iconst 1, 1) := by decide +kernel
theorem dX7_sees_83 : decode cX7_sees 83 = .ok (.iadd, 1) := by decide +kernel
theorem dX7_sees_84 : decode cX7_sees 84 = .ok (.iastore, 1) := by decide +kernel
theorem dX7_sees_85 : decode cX7_sees 85 = .ok (.return_, 1) := by decide +kernel
theorem dX7_goesOrders_0 : decode cX7_goesOrders 0 = .ok (.iload_n 1, 1) := by decide +kernel
theorem dX7_goesOrders_1 : decode cX7_goesOrders 1 = .ok (.aload_n 0, 1) := by decide +kernel
theorem dX7_goesOrders_2 : decode cX7_goesOrders 2 = .ok (.getfield 91, 3) := by decide +kernel
theorem dX7_goesOrders_5 : decode cX7_goesOrders 5 = .ok (.if_icmp .ge 47, 3) := by decide +kernel
theorem dX7_goesOrders_8 : decode cX7_goesOrders 8 = .ok (.iconst 0, 1) := by decide +kernel
theorem dX7_goesOrders_9 : decode cX7_goesOrders 9 = .ok (.istore_n 3, 1) := by decide +kernel
theorem dX7_goesOrders_10 : decode cX7_goesOrders 10 = .ok (.iload_n 3, 1) := by decide +kernel
theorem dX7_goesOrders_11 : decode cX7_goesOrders 11 = .ok (.aload_n 0, 1) := by decide +kernel
theorem dX7_goesOrders_12 : decode cX7_goesOrders 12 = .ok (.getfield 91, 3) := by decide +kernel
theorem dX7_goesOrders_15 : decode cX7_goesOrders 15 = .ok (.if_icmp .ge 36, 3) := by decide +kernel
theorem dX7_goesOrders_18 : decode cX7_goesOrders 18 = .ok (.iload_n 2, 1) := by decide +kernel
theorem dX7_goesOrders_19 : decode cX7_goesOrders 19 = .ok (.iload_n 3, 1) := by decide +kernel
theorem dX7_goesOrders_20 : decode cX7_goesOrders 20 = .ok (.ishr, 1) := by decide +kernel
theorem dX7_goesOrders_21 : decode cX7_goesOrders 21 = .ok (.iconst 1, 1) := by decide +kernel
theorem dX7_goesOrders_22 : decode cX7_goesOrders 22 = .ok (.iand, 1) := by decide +kernel
theorem dX7_goesOrders_23 : decode cX7_goesOrders 23 = .ok (.ifCond .ne 22, 3) := by decide +kernel
theorem dX7_goesOrders_26 : decode cX7_goesOrders 26 = .ok (.aload_n 0, 1) := by decide +kernel
theorem dX7_goesOrders_27 : decode cX7_goesOrders 27 = .ok (.getfield 24, 3) := by decide +kernel
theorem dX7_goesOrders_30 : decode cX7_goesOrders 30 = .ok (.iload_n 1, 1) := by decide +kernel
theorem dX7_goesOrders_31 : decode cX7_goesOrders 31 = .ok (.iload_n 3, 1) := by decide +kernel
theorem dX7_goesOrders_32 : decode cX7_goesOrders 32 = .ok (.iastore, 1) := by decide +kernel
theorem dX7_goesOrders_33 : decode cX7_goesOrders 33 = .ok (.aload_n 0, 1) := by decide +kernel
theorem dX7_goesOrders_34 : decode cX7_goesOrders 34 = .ok (.iload_n 1, 1) := by decide +kernel
theorem dX7_goesOrders_35 : decode cX7_goesOrders 35 = .ok (.iconst 1, 1) := by decide +kernel
theorem dX7_goesOrders_36 : decode cX7_goesOrders 36 = .ok (.iadd, 1) := by decide +kernel
theorem dX7_goesOrders_37 : decode cX7_goesOrders 37 = .ok (.iload_n 2, 1) := by decide +kernel
theorem dX7_goesOrders_38 : decode cX7_goesOrders 38 = .ok (.iconst 1, 1) := by decide +kernel
theorem dX7_goesOrders_39 : decode cX7_goesOrders 39 = .ok (.iload_n 3, 1) := by decide +kernel
theorem dX7_goesOrders_40 : decode cX7_goesOrders 40 = .ok (.ishl, 1) := by decide +kernel
theorem dX7_goesOrders_41 : decode cX7_goesOrders 41 = .ok (.ior, 1) := by decide +kernel
theorem dX7_goesOrders_42 : decode cX7_goesOrders 42 = .ok (.invokevirtual 242, 3) := by decide +kernel
theorem dX7_goesOrders_45 : decode cX7_goesOrders 45 = .ok (.iinc 3 1, 3) := by decide +kernel
theorem dX7_goesOrders_48 : decode cX7_goesOrders 48 = .ok (.goto (-38), 3) := by decide +kernel
theorem dX7_goesOrders_51 : decode cX7_goesOrders 51 = .ok (.return_, 1) := by decide +kernel
theorem dX7_goesOrders_52 : decode cX7_goesOrders 52 = .ok (.iconst 0, 1) := by decide +kernel
theorem dX7_goesOrders_53 : decode cX7_goesOrders 53 = .ok (.istore_n 3, 1) := by decide +kernel
theorem dX7_goesOrders_54 : decode cX7_goesOrders 54 = .ok (.aload_n 0, 1) := by decide +kernel
theorem dX7_goesOrders_55 : decode cX7_goesOrders 55 = .ok (.aload_n 0, 1) := by decide +kernel
theorem dX7_goesOrders_56 : decode cX7_goesOrders 56 = .ok (.getfield 11, 3) := by decide +kernel
theorem dX7_goesOrders_59 : decode cX7_goesOrders 59 = .ok (.invokevirtual 146, 3) := by decide +kernel
theorem dX7_goesOrders_62 : decode cX7_goesOrders 62 = .ok (.iconst 0, 1) := by decide +kernel
theorem dX7_goesOrders_63 : decode cX7_goesOrders 63 = .ok (.istore 4, 2) := by decide +kernel
theorem dX7_goesOrders_65 : decode cX7_goesOrders 65 = .ok (.iload 4, 2) := by decide +kernel
theorem dX7_goesOrders_67 : decode cX7_goesOrders 67 = .ok (.aload_n 0, 1) := by decide +kernel
theorem dX7_goesOrders_68 : decode cX7_goesOrders 68 = .ok (.getfield 91, 3) := by decide +kernel
theorem dX7_goesOrders_71 : decode cX7_goesOrders 71 = .ok (.if_icmp .ge 43, 3) := by decide +kernel
theorem dX7_goesOrders_74 : decode cX7_goesOrders 74 = .ok (.bipush 10, 2) := by decide +kernel
theorem dX7_goesOrders_76 : decode cX7_goesOrders 76 = .ok (.iload_n 3, 1) := by decide +kernel
theorem dX7_goesOrders_77 : decode cX7_goesOrders 77 = .ok (.imul, 1) := by decide +kernel
theorem dX7_goesOrders_78 : decode cX7_goesOrders 78 = .ok (.aload_n 0, 1) := by decide +kernel
theorem dX7_goesOrders_79 : decode cX7_goesOrders 79 = .ok (.getfield 24, 3) := by decide +kernel
theorem dX7_goesOrders_82 : decode cX7_goesOrders 82 = .ok (.iload 4, 2) := by decide +kernel
theorem dX7_goesOrders_84 : decode cX7_goesOrders 84 = .ok (.iaload, 1) := by decide +kernel
theorem dX7_goesOrders_85 : decode cX7_goesOrders 85 = .ok (.iadd, 1) := by decide +kernel
theorem dX7_goesOrders_86 : decode cX7_goesOrders 86 = .ok (.iconst 1, 1) := by decide +kernel
theorem dX7_goesOrders_87 : decode cX7_goesOrders 87 = .ok (.iadd, 1) := by decide +kernel
theorem dX7_goesOrders_88 : decode cX7_goesOrders 88 = .ok (.istore_n 3, 1) := by decide +kernel
theorem dX7_goesOrders_89 : decode cX7_goesOrders 89 = .ok (.aload_n 0, 1) := by decide +kernel
theorem dX7_goesOrders_90 : decode cX7_goesOrders 90 = .ok (.getfield 21, 3) := by decide +kernel
theorem dX7_goesOrders_93 : decode cX7_goesOrders 93 = .ok (.aload_n 0, 1) := by decide +kernel
theorem dX7_goesOrders_94 : decode cX7_goesOrders 94 = .ok (.getfield 17, 3) := by decide +kernel
theorem dX7_goesOrders_97 : decode cX7_goesOrders 97 = .ok (.aload_n 0, 1) := by decide +kernel
theorem dX7_goesOrders_98 : decode cX7_goesOrders 98 = .ok (.getfield 24, 3) := by decide +kernel
theorem dX7_goesOrders_101 : decode cX7_goesOrders 101 = .ok (.iload 4, 2) := by decide +kernel
theorem dX7_goesOrders_103 : decode cX7_goesOrders 103 = .ok (.iaload, 1) := by decide +kernel
theorem dX7_goesOrders_104 : decode cX7_goesOrders 104 = .ok (.iaload, 1) := by decide +kernel
theorem dX7_goesOrders_105 : decode cX7_goesOrders 105 = .ok (.invokestatic 149, 3) := by decide +kernel
theorem dX7_goesOrders_108 : decode cX7_goesOrders 108 = .ok (.iinc 4 1, 3) := by decide +kernel
theorem dX7_goesOrders_111 : decode cX7_goesOrders 111 = .ok (.goto (-46), 3) := by decide +kernel
theorem dX7_goesOrders_114 : decode cX7_goesOrders 114 = .ok (.aload_n 0, 1) := by decide +kernel
theorem dX7_goesOrders_115 : decode cX7_goesOrders 115 = .ok (.invokevirtual 245, 3) := by decide +kernel
theorem dX7_goesOrders_118 : decode cX7_goesOrders 118 = .ok (.aload_n 0, 1) := by decide +kernel
theorem dX7_goesOrders_119 : decode cX7_goesOrders 119 = .ok (.getfield 248, 3) := by decide +kernel
theorem dX7_goesOrders_122 : decode cX7_goesOrders 122 = .ok (.ifCond .eq 33, 3) := by decide +kernel
theorem dX7_goesOrders_125 : decode cX7_goesOrders 125 = .ok (.aload_n 0, 1) := by decide +kernel
theorem dX7_goesOrders_126 : decode cX7_goesOrders 126 = .ok (.getfield 21, 3) := by decide +kernel
theorem dX7_goesOrders_129 : decode cX7_goesOrders 129 = .ok (.iconst 0, 1) := by decide +kernel
theorem dX7_goesOrders_130 : decode cX7_goesOrders 130 = .ok (.laload, 1) := by decide +kernel
theorem dX7_goesOrders_131 : decode cX7_goesOrders 131 = .ok (.aload_n 0, 1) := by decide +kernel
theorem dX7_goesOrders_132 : decode cX7_goesOrders 132 = .ok (.getfield 21, 3) := by decide +kernel
theorem dX7_goesOrders_135 : decode cX7_goesOrders 135 = .ok (.iconst 4, 1) := by decide +kernel
theorem dX7_goesOrders_136 : decode cX7_goesOrders 136 = .ok (.laload, 1) := by decide +kernel
theorem dX7_goesOrders_137 : decode cX7_goesOrders 137 = .ok (.aload_n 0, 1) := by decide +kernel
theorem dX7_goesOrders_138 : decode cX7_goesOrders 138 = .ok (.getfield 33, 3) := by decide +kernel
theorem dX7_goesOrders_141 : decode cX7_goesOrders 141 = .ok (.iconst 0, 1) := by decide +kernel
theorem dX7_goesOrders_142 : decode cX7_goesOrders 142 = .ok (.laload, 1) := by decide +kernel
theorem dX7_goesOrders_143 : decode cX7_goesOrders 143 = .ok (.aload_n 0, 1) := by decide +kernel
theorem dX7_goesOrders_144 : decode cX7_goesOrders 144 = .ok (.getfield 33, 3) := by decide +kernel
theorem dX7_goesOrders_147 : decode cX7_goesOrders 147 = .ok (.iconst 4, 1) := by decide +kernel
theorem dX7_goesOrders_148 : decode cX7_goesOrders 148 = .ok (.laload, 1) := by decide +kernel
theorem dX7_goesOrders_149 : decode cX7_goesOrders 149 = .ok (.invokestatic 252, 3) := by decide +kernel
theorem dX7_goesOrders_152 : decode cX7_goesOrders 152 = .ok (.ifCond .ge 22, 3) := by decide +kernel
theorem dX7_goesOrders_155 : decode cX7_goesOrders 155 = .ok (.aload_n 0, 1) := by decide +kernel
theorem dX7_goesOrders_156 : decode cX7_goesOrders 156 = .ok (.iload_n 3, 1) := by decide +kernel
theorem dX7_goesOrders_157 : decode cX7_goesOrders 157 = .ok (.putfield 256, 3) := by decide +kernel
theorem dX7_goesOrders_160 : decode cX7_goesOrders 160 = .ok (.aload_n 0, 1) := by decide +kernel
theorem dX7_goesOrders_161 : decode cX7_goesOrders 161 = .ok (.getfield 21, 3) := by decide +kernel
theorem dX7_goesOrders_164 : decode cX7_goesOrders 164 = .ok (.iconst 0, 1) := by decide +kernel
theorem dX7_goesOrders_165 : decode cX7_goesOrders 165 = .ok (.aload_n 0, 1) := by decide +kernel
theorem dX7_goesOrders_166 : decode cX7_goesOrders 166 = .ok (.getfield 33, 3) := by decide +kernel
theorem dX7_goesOrders_169 : decode cX7_goesOrders 169 = .ok (.iconst 0, 1) := by decide +kernel
theorem dX7_goesOrders_170 : decode cX7_goesOrders 170 = .ok (.iconst 5, 1) := by decide +kernel
theorem dX7_goesOrders_171 : decode cX7_goesOrders 171 = .ok (.invokestatic 140, 3) := by decide +kernel
theorem dX7_goesOrders_174 : decode cX7_goesOrders 174 = .ok (.aload_n 0, 1) := by decide +kernel
theorem dX7_goesOrders_175 : decode cX7_goesOrders 175 = .ok (.getfield 248, 3) := by decide +kernel
theorem dX7_goesOrders_178 : decode cX7_goesOrders 178 = .ok (.ifCond .eq 33, 3) := by decide +kernel
theorem dX7_goesOrders_181 : decode cX7_goesOrders 181 = .ok (.aload_n 0, 1) := by decide +kernel
theorem dX7_goesOrders_182 : decode cX7_goesOrders 182 = .ok (.getfield 21, 3) := by decide +kernel
theorem dX7_goesOrders_185 : decode cX7_goesOrders 185 = .ok (.iconst 0, 1) := by decide +kernel
theorem dX7_goesOrders_186 : decode cX7_goesOrders 186 = .ok (.laload, 1) := by decide +kernel
theorem dX7_goesOrders_187 : decode cX7_goesOrders 187 = .ok (.aload_n 0, 1) := by decide +kernel
theorem dX7_goesOrders_188 : decode cX7_goesOrders 188 = .ok (.getfield 21, 3) := by decide +kernel
theorem dX7_goesOrders_191 : decode cX7_goesOrders 191 = .ok (.iconst 4, 1) := by decide +kernel
theorem dX7_goesOrders_192 : decode cX7_goesOrders 192 = .ok (.laload, 1) := by decide +kernel
theorem dX7_goesOrders_193 : decode cX7_goesOrders 193 = .ok (.aload_n 0, 1) := by decide +kernel
theorem dX7_goesOrders_194 : decode cX7_goesOrders 194 = .ok (.getfield 36, 3) := by decide +kernel
theorem dX7_goesOrders_197 : decode cX7_goesOrders 197 = .ok (.iconst 0, 1) := by decide +kernel
theorem dX7_goesOrders_198 : decode cX7_goesOrders 198 = .ok (.laload, 1) := by decide +kernel
theorem dX7_goesOrders_199 : decode cX7_goesOrders 199 = .ok (.aload_n 0, 1) := by decide +kernel
theorem dX7_goesOrders_200 : decode cX7_goesOrders 200 = .ok (.getfield 36, 3) := by decide +kernel
theorem dX7_goesOrders_203 : decode cX7_goesOrders 203 = .ok (.iconst 4, 1) := by decide +kernel
theorem dX7_goesOrders_204 : decode cX7_goesOrders 204 = .ok (.laload, 1) := by decide +kernel
theorem dX7_goesOrders_205 : decode cX7_goesOrders 205 = .ok (.invokestatic 252, 3) := by decide +kernel
theorem dX7_goesOrders_208 : decode cX7_goesOrders 208 = .ok (.ifCond .le 22, 3) := by decide +kernel
theorem dX7_goesOrders_211 : decode cX7_goesOrders 211 = .ok (.aload_n 0, 1) := by decide +kernel
theorem dX7_goesOrders_212 : decode cX7_goesOrders 212 = .ok (.iload_n 3, 1) := by decide +kernel
theorem dX7_goesOrders_213 : decode cX7_goesOrders 213 = .ok (.putfield 259, 3) := by decide +kernel
theorem dX7_goesOrders_216 : decode cX7_goesOrders 216 = .ok (.aload_n 0, 1) := by decide +kernel
theorem dX7_goesOrders_217 : decode cX7_goesOrders 217 = .ok (.getfield 21, 3) := by decide +kernel
theorem dX7_goesOrders_220 : decode cX7_goesOrders 220 = .ok (.iconst 0, 1) := by decide +kernel
theorem dX7_goesOrders_221 : decode cX7_goesOrders 221 = .ok (.aload_n 0, 1) := by decide +kernel
theorem dX7_goesOrders_222 : decode cX7_goesOrders 222 = .ok (.getfield 36, 3) := by decide +kernel
theorem dX7_goesOrders_225 : decode cX7_goesOrders 225 = .ok (.iconst 0, 1) := by decide +kernel
theorem dX7_goesOrders_226 : decode cX7_goesOrders 226 = .ok (.iconst 5, 1) := by decide +kernel
theorem dX7_goesOrders_227 : decode cX7_goesOrders 227 = .ok (.invokestatic 140, 3) := by decide +kernel
theorem dX7_goesOrders_230 : decode cX7_goesOrders 230 = .ok (.aload_n 0, 1) := by decide +kernel
theorem dX7_goesOrders_231 : decode cX7_goesOrders 231 = .ok (.iconst 1, 1) := by decide +kernel
theorem dX7_goesOrders_232 : decode cX7_goesOrders 232 = .ok (.putfield 248, 3) := by decide +kernel
theorem dX7_goesOrders_235 : decode cX7_goesOrders 235 = .ok (.return_, 1) := by decide +kernel
theorem dX7_findsOrders_0 : decode cX7_findsOrders 0 = .ok (.aload_n 0, 1) := by decide +kernel
theorem dX7_findsOrders_1 : decode cX7_findsOrders 1 = .ok (.iconst 0, 1) := by decide +kernel
theorem dX7_findsOrders_2 : decode cX7_findsOrders 2 = .ok (.putfield 235, 3) := by decide +kernel
theorem dX7_findsOrders_5 : decode cX7_findsOrders 5 = .ok (.aload_n 0, 1) := by decide +kernel
theorem dX7_findsOrders_6 : decode cX7_findsOrders 6 = .ok (.iconst 0, 1) := by decide +kernel
theorem dX7_findsOrders_7 : decode cX7_findsOrders 7 = .ok (.putfield 248, 3) := by decide +kernel
theorem dX7_findsOrders_10 : decode cX7_findsOrders 10 = .ok (.aload_n 0, 1) := by decide +kernel
theorem dX7_findsOrders_11 : decode cX7_findsOrders 11 = .ok (.iconst 0, 1) := by decide +kernel
theorem dX7_findsOrders_12 : decode cX7_findsOrders 12 = .ok (.iconst 0, 1) := by decide +kernel
theorem dX7_findsOrders_13 : decode cX7_findsOrders 13 = .ok (.invokevirtual 242, 3) := by decide +kernel
theorem dX7_findsOrders_16 : decode cX7_findsOrders 16 = .ok (.return_, 1) := by decide +kernel
theorem dX7_order_0 : decode cX7_order 0 = .ok (.iload_n 1, 1) := by decide +kernel
theorem dX7_order_1 : decode cX7_order 1 = .ok (.i2l, 1) := by decide +kernel
theorem dX7_order_2 : decode cX7_order 2 = .ok (.lconst 0, 1) := by decide +kernel
theorem dX7_order_3 : decode cX7_order 3 = .ok (.ldc2_w 160, 3) := by decide +kernel
theorem dX7_order_6 : decode cX7_order 6 = .ok (.invokestatic 95, 3) := by decide +kernel
theorem dX7_order_9 : decode cX7_order 9 = .ok (.ifCond .ne 5, 3) := by decide +kernel
theorem dX7_order_12 : decode cX7_order 12 = .ok (.iconst (-1), 1) := by decide +kernel
theorem dX7_order_13 : decode cX7_order 13 = .ok (.ireturn, 1) := by decide +kernel
theorem dX7_order_14 : decode cX7_order 14 = .ok (.aload_n 0, 1) := by decide +kernel
theorem dX7_order_15 : decode cX7_order 15 = .ok (.getfield 91, 3) := by decide +kernel
theorem dX7_order_18 : decode cX7_order 18 = .ok (.iconst 5, 1) := by decide +kernel
theorem dX7_order_19 : decode cX7_order 19 = .ok (.if_icmp .le 6, 3) := by decide +kernel
theorem dX7_order_22 : decode cX7_order 22 = .ok (.bipush (-3), 2) := by decide +kernel
theorem dX7_order_24 : decode cX7_order 24 = .ok (.ireturn, 1) := by decide +kernel
theorem dX7_order_25 : decode cX7_order 25 = .ok (.aload_n 0, 1) := by decide +kernel
theorem dX7_order_26 : decode cX7_order 26 = .ok (.invokevirtual 262, 3) := by decide +kernel
theorem dX7_order_29 : decode cX7_order 29 = .ok (.iload_n 1, 1) := by decide +kernel
theorem dX7_order_30 : decode cX7_order 30 = .ok (.iconst 3, 1) := by decide +kernel
theorem dX7_order_31 : decode cX7_order 31 = .ok (.if_icmp .ge 31, 3) := by decide +kernel
theorem dX7_order_34 : decode cX7_order 34 = .ok (.iload_n 1, 1) := by decide +kernel
theorem dX7_order_35 : decode cX7_order 35 = .ok (.ifCond .ne 10, 3) := by decide +kernel
theorem dX7_order_38 : decode cX7_order 38 = .ok (.aload_n 0, 1) := by decide +kernel
theorem dX7_order_39 : decode cX7_order 39 = .ok (.getfield 256, 3) := by decide +kernel
theorem dX7_order_42 : decode cX7_order 42 = .ok (.goto 19, 3) := by decide +kernel
theorem dX7_order_45 : decode cX7_order 45 = .ok (.iload_n 1, 1) := by decide +kernel
theorem dX7_order_46 : decode cX7_order 46 = .ok (.iconst 1, 1) := by decide +kernel
theorem dX7_order_47 : decode cX7_order 47 = .ok (.if_icmp .ne 10, 3) := by decide +kernel
theorem dX7_order_50 : decode cX7_order 50 = .ok (.aload_n 0, 1) := by decide +kernel
theorem dX7_order_51 : decode cX7_order 51 = .ok (.getfield 259, 3) := by decide +kernel
theorem dX7_order_54 : decode cX7_order 54 = .ok (.goto 7, 3) := by decide +kernel
theorem dX7_order_57 : decode cX7_order 57 = .ok (.aload_n 0, 1) := by decide +kernel
theorem dX7_order_58 : decode cX7_order 58 = .ok (.getfield 235, 3) := by decide +kernel
theorem dX7_order_61 : decode cX7_order 61 = .ok (.ireturn, 1) := by decide +kernel
theorem dX7_order_62 : decode cX7_order 62 = .ok (.iconst 0, 1) := by decide +kernel
theorem dX7_order_63 : decode cX7_order 63 = .ok (.istore_n 2, 1) := by decide +kernel
theorem dX7_order_64 : decode cX7_order 64 = .ok (.iconst 0, 1) := by decide +kernel
theorem dX7_order_65 : decode cX7_order 65 = .ok (.istore_n 3, 1) := by decide +kernel
theorem dX7_order_66 : decode cX7_order 66 = .ok (.iload_n 3, 1) := by decide +kernel
theorem dX7_order_67 : decode cX7_order 67 = .ok (.aload_n 0, 1) := by decide +kernel
theorem dX7_order_68 : decode cX7_order 68 = .ok (.getfield 235, 3) := by decide +kernel
theorem dX7_order_71 : decode cX7_order 71 = .ok (.if_icmp .ge 30, 3) := by decide +kernel
theorem dX7_order_74 : decode cX7_order 74 = .ok (.aload_n 0, 1) := by decide +kernel
theorem dX7_order_75 : decode cX7_order 75 = .ok (.getfield 30, 3) := by decide +kernel
theorem dX7_order_78 : decode cX7_order 78 = .ok (.iload_n 3, 1) := by decide +kernel
theorem dX7_order_79 : decode cX7_order 79 = .ok (.iaload, 1) := by decide +kernel
theorem dX7_order_80 : decode cX7_order 80 = .ok (.iload_n 2, 1) := by decide +kernel
theorem dX7_order_81 : decode cX7_order 81 = .ok (.if_icmp .le 12, 3) := by decide +kernel
theorem dX7_order_84 : decode cX7_order 84 = .ok (.aload_n 0, 1) := by decide +kernel
theorem dX7_order_85 : decode cX7_order 85 = .ok (.getfield 30, 3) := by decide +kernel
theorem dX7_order_88 : decode cX7_order 88 = .ok (.iload_n 3, 1) := by decide +kernel
theorem dX7_order_89 : decode cX7_order 89 = .ok (.iaload, 1) := by decide +kernel
theorem dX7_order_90 : decode cX7_order 90 = .ok (.goto 4, 3) := by decide +kernel
theorem dX7_order_93 : decode cX7_order 93 = .ok (.iload_n 2, 1) := by decide +kernel
theorem dX7_order_94 : decode cX7_order 94 = .ok (.istore_n 2, 1) := by decide +kernel
theorem dX7_order_95 : decode cX7_order 95 = .ok (.iinc 3 1, 3) := by decide +kernel
theorem dX7_order_98 : decode cX7_order 98 = .ok (.goto (-32), 3) := by decide +kernel
theorem dX7_order_101 : decode cX7_order 101 = .ok (.iload_n 2, 1) := by decide +kernel
theorem dX7_order_102 : decode cX7_order 102 = .ok (.ireturn, 1) := by decide +kernel
theorem dX7_orderLight_0 : decode cX7_orderLight 0 = .ok (.iload_n 1, 1) := by decide +kernel
theorem dX7_orderLight_1 : decode cX7_orderLight 1 = .ok (.i2l, 1) := by decide +kernel
theorem dX7_orderLight_2 : decode cX7_orderLight 2 = .ok (.lconst 0, 1) := by decide +kernel
theorem dX7_orderLight_3 : decode cX7_orderLight 3 = .ok (.lconst 1, 1) := by decide +kernel
theorem dX7_orderLight_4 : decode cX7_orderLight 4 = .ok (.invokestatic 95, 3) := by decide +kernel
theorem dX7_orderLight_7 : decode cX7_orderLight 7 = .ok (.ifCond .eq 23, 3) := by decide +kernel
theorem dX7_orderLight_10 : decode cX7_orderLight 10 = .ok (.iload_n 2, 1) := by decide +kernel
theorem dX7_orderLight_11 : decode cX7_orderLight 11 = .ok (.i2l, 1) := by decide +kernel
theorem dX7_orderLight_12 : decode cX7_orderLight 12 = .ok (.lconst 0, 1) := by decide +kernel
theorem dX7_orderLight_13 : decode cX7_orderLight 13 = .ok (.ldc2_w 191, 3) := by decide +kernel
theorem dX7_orderLight_16 : decode cX7_orderLight 16 = .ok (.invokestatic 95, 3) := by decide +kernel
theorem dX7_orderLight_19 : decode cX7_orderLight 19 = .ok (.ifCond .eq 11, 3) := by decide +kernel
theorem dX7_orderLight_22 : decode cX7_orderLight 22 = .ok (.aload_n 0, 1) := by decide +kernel
theorem dX7_orderLight_23 : decode cX7_orderLight 23 = .ok (.getfield 91, 3) := by decide +kernel
theorem dX7_orderLight_26 : decode cX7_orderLight 26 = .ok (.iconst 5, 1) := by decide +kernel
theorem dX7_orderLight_27 : decode cX7_orderLight 27 = .ok (.if_icmp .le 7, 3) := by decide +kernel
theorem dX7_orderLight_30 : decode cX7_orderLight 30 = .ok (.ldc2_w 193, 3) := by decide +kernel
theorem dX7_orderLight_33 : decode cX7_orderLight 33 = .ok (.lreturn, 1) := by decide +kernel
theorem dX7_orderLight_34 : decode cX7_orderLight 34 = .ok (.aload_n 0, 1) := by decide +kernel
theorem dX7_orderLight_35 : decode cX7_orderLight 35 = .ok (.invokevirtual 262, 3) := by decide +kernel
theorem dX7_orderLight_38 : decode cX7_orderLight 38 = .ok (.iload_n 1, 1) := by decide +kernel
theorem dX7_orderLight_39 : decode cX7_orderLight 39 = .ok (.ifCond .ne 12, 3) := by decide +kernel
theorem dX7_orderLight_42 : decode cX7_orderLight 42 = .ok (.aload_n 0, 1) := by decide +kernel
theorem dX7_orderLight_43 : decode cX7_orderLight 43 = .ok (.getfield 33, 3) := by decide +kernel
theorem dX7_orderLight_46 : decode cX7_orderLight 46 = .ok (.iload_n 2, 1) := by decide +kernel
theorem dX7_orderLight_47 : decode cX7_orderLight 47 = .ok (.laload, 1) := by decide +kernel
theorem dX7_orderLight_48 : decode cX7_orderLight 48 = .ok (.goto 9, 3) := by decide +kernel
theorem dX7_orderLight_51 : decode cX7_orderLight 51 = .ok (.aload_n 0, 1) := by decide +kernel
theorem dX7_orderLight_52 : decode cX7_orderLight 52 = .ok (.getfield 36, 3) := by decide +kernel
theorem dX7_orderLight_55 : decode cX7_orderLight 55 = .ok (.iload_n 2, 1) := by decide +kernel
theorem dX7_orderLight_56 : decode cX7_orderLight 56 = .ok (.laload, 1) := by decide +kernel
theorem dX7_orderLight_57 : decode cX7_orderLight 57 = .ok (.lreturn, 1) := by decide +kernel
theorem dX7_begins1_0 : decode cX7_begins1 0 = .ok (.iconst 0, 1) := by decide +kernel
theorem dX7_begins1_1 : decode cX7_begins1 1 = .ok (.istore_n 2, 1) := by decide +kernel
theorem dX7_begins1_2 : decode cX7_begins1 2 = .ok (.iload_n 2, 1) := by decide +kernel
theorem dX7_begins1_3 : decode cX7_begins1 3 = .ok (.iconst 5, 1) := by decide +kernel
theorem dX7_begins1_4 : decode cX7_begins1 4 = .ok (.if_icmp .ge 25, 3) := by decide +kernel
theorem dX7_begins1_7 : decode cX7_begins1 7 = .ok (.aload_n 0, 1) := by decide +kernel
theorem dX7_begins1_8 : decode cX7_begins1 8 = .ok (.getfield 21, 3) := by decide +kernel
theorem dX7_begins1_11 : decode cX7_begins1 11 = .ok (.iload_n 2, 1) := by decide +kernel
theorem dX7_begins1_12 : decode cX7_begins1 12 = .ok (.iload_n 2, 1) := by decide +kernel
theorem dX7_begins1_13 : decode cX7_begins1 13 = .ok (.iload_n 1, 1) := by decide +kernel
theorem dX7_begins1_14 : decode cX7_begins1 14 = .ok (.if_icmp .ne 7, 3) := by decide +kernel
theorem dX7_begins1_17 : decode cX7_begins1 17 = .ok (.lconst 1, 1) := by decide +kernel
theorem dX7_begins1_18 : decode cX7_begins1 18 = .ok (.goto 4, 3) := by decide +kernel
theorem dX7_begins1_21 : decode cX7_begins1 21 = .ok (.lconst 0, 1) := by decide +kernel
theorem dX7_begins1_22 : decode cX7_begins1 22 = .ok (.lastore, 1) := by decide +kernel
theorem dX7_begins1_23 : decode cX7_begins1 23 = .ok (.iinc 2 1, 3) := by decide +kernel
theorem dX7_begins1_26 : decode cX7_begins1 26 = .ok (.goto (-24), 3) := by decide +kernel
theorem dX7_begins1_29 : decode cX7_begins1 29 = .ok (.return_, 1) := by decide +kernel
theorem dX7_matrix_0 : decode cX7_matrix 0 = .ok (.iload_n 1, 1) := by decide +kernel
theorem dX7_matrix_1 : decode cX7_matrix 1 = .ok (.i2l, 1) := by decide +kernel
theorem dX7_matrix_2 : decode cX7_matrix 2 = .ok (.lconst 0, 1) := by decide +kernel
theorem dX7_matrix_3 : decode cX7_matrix 3 = .ok (.ldc2_w 160, 3) := by decide +kernel
theorem dX7_matrix_6 : decode cX7_matrix 6 = .ok (.invokestatic 95, 3) := by decide +kernel
theorem dX7_matrix_9 : decode cX7_matrix 9 = .ok (.ifCond .eq 25, 3) := by decide +kernel
theorem dX7_matrix_12 : decode cX7_matrix 12 = .ok (.iload_n 2, 1) := by decide +kernel
theorem dX7_matrix_13 : decode cX7_matrix 13 = .ok (.i2l, 1) := by decide +kernel
theorem dX7_matrix_14 : decode cX7_matrix 14 = .ok (.lconst 0, 1) := by decide +kernel
theorem dX7_matrix_15 : decode cX7_matrix 15 = .ok (.ldc2_w 160, 3) := by decide +kernel
theorem dX7_matrix_18 : decode cX7_matrix 18 = .ok (.invokestatic 95, 3) := by decide +kernel
theorem dX7_matrix_21 : decode cX7_matrix 21 = .ok (.ifCond .eq 13, 3) := by decide +kernel
theorem dX7_matrix_24 : decode cX7_matrix 24 = .ok (.iload_n 3, 1) := by decide +kernel
theorem dX7_matrix_25 : decode cX7_matrix 25 = .ok (.i2l, 1) := by decide +kernel
theorem dX7_matrix_26 : decode cX7_matrix 26 = .ok (.lconst 0, 1) := by decide +kernel
theorem dX7_matrix_27 : decode cX7_matrix 27 = .ok (.lconst 1, 1) := by decide +kernel
theorem dX7_matrix_28 : decode cX7_matrix 28 = .ok (.invokestatic 95, 3) := by decide +kernel
theorem dX7_matrix_31 : decode cX7_matrix 31 = .ok (.ifCond .ne 7, 3) := by decide +kernel
theorem dX7_matrix_34 : decode cX7_matrix 34 = .ok (.ldc2_w 193, 3) := by decide +kernel
theorem dX7_matrix_37 : decode cX7_matrix 37 = .ok (.lreturn, 1) := by decide +kernel
theorem dX7_matrix_38 : decode cX7_matrix 38 = .ok (.aload_n 0, 1) := by decide +kernel
theorem dX7_matrix_39 : decode cX7_matrix 39 = .ok (.iload_n 2, 1) := by decide +kernel
theorem dX7_matrix_40 : decode cX7_matrix 40 = .ok (.invokevirtual 265, 3) := by decide +kernel
theorem dX7_matrix_43 : decode cX7_matrix 43 = .ok (.iconst 0, 1) := by decide +kernel
theorem dX7_matrix_44 : decode cX7_matrix 44 = .ok (.istore 4, 2) := by decide +kernel
theorem dX7_matrix_46 : decode cX7_matrix 46 = .ok (.iload 4, 2) := by decide +kernel
theorem dX7_matrix_48 : decode cX7_matrix 48 = .ok (.aload_n 0, 1) := by decide +kernel
theorem dX7_matrix_49 : decode cX7_matrix 49 = .ok (.getfield 91, 3) := by decide +kernel
theorem dX7_matrix_52 : decode cX7_matrix 52 = .ok (.if_icmp .ge 23, 3) := by decide +kernel
theorem dX7_matrix_55 : decode cX7_matrix 55 = .ok (.aload_n 0, 1) := by decide +kernel
theorem dX7_matrix_56 : decode cX7_matrix 56 = .ok (.getfield 21, 3) := by decide +kernel
theorem dX7_matrix_59 : decode cX7_matrix 59 = .ok (.aload_n 0, 1) := by decide +kernel
theorem dX7_matrix_60 : decode cX7_matrix 60 = .ok (.getfield 17, 3) := by decide +kernel
theorem dX7_matrix_63 : decode cX7_matrix 63 = .ok (.iload 4, 2) := by decide +kernel
theorem dX7_matrix_65 : decode cX7_matrix 65 = .ok (.iaload, 1) := by decide +kernel
theorem dX7_matrix_66 : decode cX7_matrix 66 = .ok (.invokestatic 149, 3) := by decide +kernel
theorem dX7_matrix_69 : decode cX7_matrix 69 = .ok (.iinc 4 1, 3) := by decide +kernel
theorem dX7_matrix_72 : decode cX7_matrix 72 = .ok (.goto (-26), 3) := by decide +kernel
theorem dX7_matrix_75 : decode cX7_matrix 75 = .ok (.aload_n 0, 1) := by decide +kernel
theorem dX7_matrix_76 : decode cX7_matrix 76 = .ok (.getfield 21, 3) := by decide +kernel
theorem dX7_matrix_79 : decode cX7_matrix 79 = .ok (.iload_n 1, 1) := by decide +kernel
theorem dX7_matrix_80 : decode cX7_matrix 80 = .ok (.laload, 1) := by decide +kernel
theorem dX7_matrix_81 : decode cX7_matrix 81 = .ok (.lstore 4, 2) := by decide +kernel
theorem dX7_matrix_83 : decode cX7_matrix 83 = .ok (.aload_n 0, 1) := by decide +kernel
theorem dX7_matrix_84 : decode cX7_matrix 84 = .ok (.getfield 21, 3) := by decide +kernel
theorem dX7_matrix_87 : decode cX7_matrix 87 = .ok (.iconst 4, 1) := by decide +kernel
theorem dX7_matrix_88 : decode cX7_matrix 88 = .ok (.laload, 1) := by decide +kernel
theorem dX7_matrix_89 : decode cX7_matrix 89 = .ok (.lstore 6, 2) := by decide +kernel
theorem dX7_matrix_91 : decode cX7_matrix 91 = .ok (.lload 6, 2) := by decide +kernel
theorem dX7_matrix_93 : decode cX7_matrix 93 = .ok (.lconst 0, 1) := by decide +kernel
theorem dX7_matrix_94 : decode cX7_matrix 94 = .ok (.lcmp, 1) := by decide +kernel
theorem dX7_matrix_95 : decode cX7_matrix 95 = .ok (.ifCond .le 31, 3) := by decide +kernel
theorem dX7_matrix_98 : decode cX7_matrix 98 = .ok (.lload 4, 2) := by decide +kernel
theorem dX7_matrix_100 : decode cX7_matrix 100 = .ok (.ldc2_w 99, 3) := by decide +kernel
theorem dX7_matrix_103 : decode cX7_matrix 103 = .ok (.lrem, 1) := by decide +kernel
theorem dX7_matrix_104 : decode cX7_matrix 104 = .ok (.lconst 0, 1) := by decide +kernel
theorem dX7_matrix_105 : decode cX7_matrix 105 = .ok (.lcmp, 1) := by decide +kernel
theorem dX7_matrix_106 : decode cX7_matrix 106 = .ok (.ifCond .ne 20, 3) := by decide +kernel
theorem dX7_matrix_109 : decode cX7_matrix 109 = .ok (.lload 4, 2) := by decide +kernel
theorem dX7_matrix_111 : decode cX7_matrix 111 = .ok (.ldc2_w 99, 3) := by decide +kernel
theorem dX7_matrix_114 : decode cX7_matrix 114 = .ok (.ldiv, 1) := by decide +kernel
theorem dX7_matrix_115 : decode cX7_matrix 115 = .ok (.lstore 4, 2) := by decide +kernel
theorem dX7_matrix_117 : decode cX7_matrix 117 = .ok (.lload 6, 2) := by decide +kernel
theorem dX7_matrix_119 : decode cX7_matrix 119 = .ok (.lconst 1, 1) := by decide +kernel
theorem dX7_matrix_120 : decode cX7_matrix 120 = .ok (.lsub, 1) := by decide +kernel
theorem dX7_matrix_121 : decode cX7_matrix 121 = .ok (.lstore 6, 2) := by decide +kernel
theorem dX7_matrix_123 : decode cX7_matrix 123 = .ok (.goto (-32), 3) := by decide +kernel
theorem dX7_matrix_126 : decode cX7_matrix 126 = .ok (.iload_n 3, 1) := by decide +kernel
theorem dX7_matrix_127 : decode cX7_matrix 127 = .ok (.ifCond .ne 8, 3) := by decide +kernel
theorem dX7_matrix_130 : decode cX7_matrix 130 = .ok (.lload 4, 2) := by decide +kernel
theorem dX7_matrix_132 : decode cX7_matrix 132 = .ok (.goto 5, 3) := by decide +kernel
theorem dX7_matrix_135 : decode cX7_matrix 135 = .ok (.lload 6, 2) := by decide +kernel
theorem dX7_matrix_137 : decode cX7_matrix 137 = .ok (.lreturn, 1) := by decide +kernel
theorem dX7_trade_0 : decode cX7_trade 0 = .ok (.aload_n 0, 1) := by decide +kernel
theorem dX7_trade_1 : decode cX7_trade 1 = .ok (.iload_n 1, 1) := by decide +kernel
theorem dX7_trade_2 : decode cX7_trade 2 = .ok (.invokevirtual 169, 3) := by decide +kernel
theorem dX7_trade_5 : decode cX7_trade 5 = .ok (.ifCond .eq 11, 3) := by decide +kernel
theorem dX7_trade_8 : decode cX7_trade 8 = .ok (.aload_n 0, 1) := by decide +kernel
theorem dX7_trade_9 : decode cX7_trade 9 = .ok (.iload_n 2, 1) := by decide +kernel
theorem dX7_trade_10 : decode cX7_trade 10 = .ok (.invokevirtual 169, 3) := by decide +kernel
theorem dX7_trade_13 : decode cX7_trade 13 = .ok (.ifCond .ne 5, 3) := by decide +kernel
theorem dX7_trade_16 : decode cX7_trade 16 = .ok (.iconst (-1), 1) := by decide +kernel
theorem dX7_trade_17 : decode cX7_trade 17 = .ok (.ireturn, 1) := by decide +kernel
theorem dX7_trade_18 : decode cX7_trade 18 = .ok (.iconst 0, 1) := by decide +kernel
theorem dX7_trade_19 : decode cX7_trade 19 = .ok (.istore_n 3, 1) := by decide +kernel
theorem dX7_trade_20 : decode cX7_trade 20 = .ok (.iload_n 3, 1) := by decide +kernel
theorem dX7_trade_21 : decode cX7_trade 21 = .ok (.iconst 4, 1) := by decide +kernel
theorem dX7_trade_22 : decode cX7_trade 22 = .ok (.if_icmp .ge 103, 3) := by decide +kernel
theorem dX7_trade_25 : decode cX7_trade 25 = .ok (.aload_n 0, 1) := by decide +kernel
theorem dX7_trade_26 : decode cX7_trade 26 = .ok (.iload_n 3, 1) := by decide +kernel
theorem dX7_trade_27 : decode cX7_trade 27 = .ok (.invokevirtual 265, 3) := by decide +kernel
theorem dX7_trade_30 : decode cX7_trade 30 = .ok (.aload_n 0, 1) := by decide +kernel
theorem dX7_trade_31 : decode cX7_trade 31 = .ok (.getfield 21, 3) := by decide +kernel
theorem dX7_trade_34 : decode cX7_trade 34 = .ok (.aload_n 0, 1) := by decide +kernel
theorem dX7_trade_35 : decode cX7_trade 35 = .ok (.getfield 17, 3) := by decide +kernel
theorem dX7_trade_38 : decode cX7_trade 38 = .ok (.iload_n 1, 1) := by decide +kernel
theorem dX7_trade_39 : decode cX7_trade 39 = .ok (.iaload, 1) := by decide +kernel
theorem dX7_trade_40 : decode cX7_trade 40 = .ok (.invokestatic 149, 3) := by decide +kernel
theorem dX7_trade_43 : decode cX7_trade 43 = .ok (.aload_n 0, 1) := by decide +kernel
theorem dX7_trade_44 : decode cX7_trade 44 = .ok (.getfield 21, 3) := by decide +kernel
theorem dX7_trade_47 : decode cX7_trade 47 = .ok (.aload_n 0, 1) := by decide +kernel
theorem dX7_trade_48 : decode cX7_trade 48 = .ok (.getfield 17, 3) := by decide +kernel
theorem dX7_trade_51 : decode cX7_trade 51 = .ok (.iload_n 2, 1) := by decide +kernel
theorem dX7_trade_52 : decode cX7_trade 52 = .ok (.iaload, 1) := by decide +kernel
theorem dX7_trade_53 : decode cX7_trade 53 = .ok (.invokestatic 149, 3) := by decide +kernel
theorem dX7_trade_56 : decode cX7_trade 56 = .ok (.aload_n 0, 1) := by decide +kernel
theorem dX7_trade_57 : decode cX7_trade 57 = .ok (.getfield 21, 3) := by decide +kernel
theorem dX7_trade_60 : decode cX7_trade 60 = .ok (.iconst 0, 1) := by decide +kernel
theorem dX7_trade_61 : decode cX7_trade 61 = .ok (.aload_n 0, 1) := by decide +kernel
theorem dX7_trade_62 : decode cX7_trade 62 = .ok (.getfield 39, 3) := by decide +kernel
theorem dX7_trade_65 : decode cX7_trade 65 = .ok (.iconst 0, 1) := by decide +kernel
theorem dX7_trade_66 : decode cX7_trade 66 = .ok (.iconst 5, 1) := by decide +kernel
theorem dX7_trade_67 : decode cX7_trade 67 = .ok (.invokestatic 140, 3) := by decide +kernel
theorem dX7_trade_70 : decode cX7_trade 70 = .ok (.aload_n 0, 1) := by decide +kernel
theorem dX7_trade_71 : decode cX7_trade 71 = .ok (.iload_n 3, 1) := by decide +kernel
theorem dX7_trade_72 : decode cX7_trade 72 = .ok (.invokevirtual 265, 3) := by decide +kernel
theorem dX7_trade_75 : decode cX7_trade 75 = .ok (.aload_n 0, 1) := by decide +kernel
theorem dX7_trade_76 : decode cX7_trade 76 = .ok (.getfield 21, 3) := by decide +kernel
theorem dX7_trade_79 : decode cX7_trade 79 = .ok (.aload_n 0, 1) := by decide +kernel
theorem dX7_trade_80 : decode cX7_trade 80 = .ok (.getfield 17, 3) := by decide +kernel
theorem dX7_trade_83 : decode cX7_trade 83 = .ok (.iload_n 2, 1) := by decide +kernel
theorem dX7_trade_84 : decode cX7_trade 84 = .ok (.iaload, 1) := by decide +kernel
theorem dX7_trade_85 : decode cX7_trade 85 = .ok (.invokestatic 149, 3) := by decide +kernel
theorem dX7_trade_88 : decode cX7_trade 88 = .ok (.aload_n 0, 1) := by decide +kernel
theorem dX7_trade_89 : decode cX7_trade 89 = .ok (.getfield 21, 3) := by decide +kernel
theorem dX7_trade_92 : decode cX7_trade 92 = .ok (.aload_n 0, 1) := by decide +kernel
theorem dX7_trade_93 : decode cX7_trade 93 = .ok (.getfield 17, 3) := by decide +kernel
theorem dX7_trade_96 : decode cX7_trade 96 = .ok (.iload_n 1, 1) := by decide +kernel
theorem dX7_trade_97 : decode cX7_trade 97 = .ok (.iaload, 1) := by decide +kernel
theorem dX7_trade_98 : decode cX7_trade 98 = .ok (.invokestatic 149, 3) := by decide +kernel
theorem dX7_trade_101 : decode cX7_trade 101 = .ok (.aload_n 0, 1) := by decide +kernel
theorem dX7_trade_102 : decode cX7_trade 102 = .ok (.getfield 21, 3) := by decide +kernel
theorem dX7_trade_105 : decode cX7_trade 105 = .ok (.iconst 0, 1) := by decide +kernel
theorem dX7_trade_106 : decode cX7_trade 106 = .ok (.aload_n 0, 1) := by decide +kernel
theorem dX7_trade_107 : decode cX7_trade 107 = .ok (.getfield 39, 3) := by decide +kernel
theorem dX7_trade_110 : decode cX7_trade 110 = .ok (.iconst 0, 1) := by decide +kernel
theorem dX7_trade_111 : decode cX7_trade 111 = .ok (.invokestatic 238, 3) := by decide +kernel
theorem dX7_trade_114 : decode cX7_trade 114 = .ok (.ifCond .ne 5, 3) := by decide +kernel
theorem dX7_trade_117 : decode cX7_trade 117 = .ok (.iconst 0, 1) := by decide +kernel
theorem dX7_trade_118 : decode cX7_trade 118 = .ok (.ireturn, 1) := by decide +kernel
theorem dX7_trade_119 : decode cX7_trade 119 = .ok (.iinc 3 1, 3) := by decide +kernel
theorem dX7_trade_122 : decode cX7_trade 122 = .ok (.goto (-102), 3) := by decide +kernel
theorem dX7_trade_125 : decode cX7_trade 125 = .ok (.iconst 1, 1) := by decide +kernel
theorem dX7_trade_126 : decode cX7_trade 126 = .ok (.ireturn, 1) := by decide +kernel
theorem dX7_angle_0 : decode cX7_angle 0 = .ok (.aload_n 0, 1) := by decide +kernel
theorem dX7_angle_1 : decode cX7_angle 1 = .ok (.iload_n 1, 1) := by decide +kernel
theorem dX7_angle_2 : decode cX7_angle 2 = .ok (.invokevirtual 169, 3) := by decide +kernel
theorem dX7_angle_5 : decode cX7_angle 5 = .ok (.ifCond .eq 15, 3) := by decide +kernel
theorem dX7_angle_8 : decode cX7_angle 8 = .ok (.iload_n 2, 1) := by decide +kernel
theorem dX7_angle_9 : decode cX7_angle 9 = .ok (.i2l, 1) := by decide +kernel
theorem dX7_angle_10 : decode cX7_angle 10 = .ok (.lconst 0, 1) := by decide +kernel
theorem dX7_angle_11 : decode cX7_angle 11 = .ok (.ldc2_w 99, 3) := by decide +kernel
theorem dX7_angle_14 : decode cX7_angle 14 = .ok (.invokestatic 95, 3) := by decide +kernel
theorem dX7_angle_17 : decode cX7_angle 17 = .ok (.ifCond .ne 5, 3) := by decide +kernel
theorem dX7_angle_20 : decode cX7_angle 20 = .ok (.iconst (-1), 1) := by decide +kernel
theorem dX7_angle_21 : decode cX7_angle 21 = .ok (.ireturn, 1) := by decide +kernel
theorem dX7_angle_22 : decode cX7_angle 22 = .ok (.aload_n 0, 1) := by decide +kernel
theorem dX7_angle_23 : decode cX7_angle 23 = .ok (.getfield 17, 3) := by decide +kernel
theorem dX7_angle_26 : decode cX7_angle 26 = .ok (.iload_n 1, 1) := by decide +kernel
theorem dX7_angle_27 : decode cX7_angle 27 = .ok (.iaload, 1) := by decide +kernel
theorem dX7_angle_28 : decode cX7_angle 28 = .ok (.istore_n 3, 1) := by decide +kernel
theorem dX7_angle_29 : decode cX7_angle 29 = .ok (.iconst 0, 1) := by decide +kernel
theorem dX7_angle_30 : decode cX7_angle 30 = .ok (.istore 4, 2) := by decide +kernel
theorem dX7_angle_32 : decode cX7_angle 32 = .ok (.iconst 0, 1) := by decide +kernel
theorem dX7_angle_33 : decode cX7_angle 33 = .ok (.istore 5, 2) := by decide +kernel
theorem dX7_angle_35 : decode cX7_angle 35 = .ok (.aload_n 0, 1) := by decide +kernel
theorem dX7_angle_36 : decode cX7_angle 36 = .ok (.iconst 0, 1) := by decide +kernel
theorem dX7_angle_37 : decode cX7_angle 37 = .ok (.putfield 235, 3) := by decide +kernel
theorem dX7_angle_40 : decode cX7_angle 40 = .ok (.iconst 0, 1) := by decide +kernel
theorem dX7_angle_41 : decode cX7_angle 41 = .ok (.istore 6, 2) := by decide +kernel
theorem dX7_angle_43 : decode cX7_angle 43 = .ok (.iload 6, 2) := by decide +kernel
theorem dX7_angle_45 : decode cX7_angle 45 = .ok (.iconst 4, 1) := by decide +kernel
theorem dX7_angle_46 : decode cX7_angle 46 = .ok (.if_icmp .ge 140, 3) := by decide +kernel
theorem dX7_angle_49 : decode cX7_angle 49 = .ok (.aload_n 0, 1) := by decide +kernel
theorem dX7_angle_50 : decode cX7_angle 50 = .ok (.getfield 17, 3) := by decide +kernel
theorem dX7_angle_53 : decode cX7_angle 53 = .ok (.iload_n 1, 1) := by decide +kernel
theorem dX7_angle_54 : decode cX7_angle 54 = .ok (.iload_n 3, 1) := by decide +kernel
theorem dX7_angle_55 : decode cX7_angle 55 = .ok (.iconst 1, 1) := by decide +kernel
theorem dX7_angle_56 : decode cX7_angle 56 = .ok (.iload 6, 2) := by decide +kernel
theorem dX7_angle_58 : decode cX7_angle 58 = .ok (.invokestatic 177, 3) := by decide +kernel
theorem dX7_angle_61 : decode cX7_angle 61 = .ok (.iastore, 1) := by decide +kernel
theorem dX7_angle_62 : decode cX7_angle 62 = .ok (.aload_n 0, 1) := by decide +kernel
theorem dX7_angle_63 : decode cX7_angle 63 = .ok (.aload_n 0, 1) := by decide +kernel
theorem dX7_angle_64 : decode cX7_angle 64 = .ok (.getfield 91, 3) := by decide +kernel
theorem dX7_angle_67 : decode cX7_angle 67 = .ok (.invokevirtual 195, 3) := by decide +kernel
theorem dX7_angle_70 : decode cX7_angle 70 = .ok (.aload_n 0, 1) := by decide +kernel
theorem dX7_angle_71 : decode cX7_angle 71 = .ok (.invokevirtual 245, 3) := by decide +kernel
theorem dX7_angle_74 : decode cX7_angle 74 = .ok (.iload 6, 2) := by decide +kernel
theorem dX7_angle_76 : decode cX7_angle 76 = .ok (.ifCond .eq 33, 3) := by decide +kernel
theorem dX7_angle_79 : decode cX7_angle 79 = .ok (.aload_n 0, 1) := by decide +kernel
theorem dX7_angle_80 : decode cX7_angle 80 = .ok (.getfield 21, 3) := by decide +kernel
theorem dX7_angle_83 : decode cX7_angle 83 = .ok (.iconst 0, 1) := by decide +kernel
theorem dX7_angle_84 : decode cX7_angle 84 = .ok (.laload, 1) := by decide +kernel
theorem dX7_angle_85 : decode cX7_angle 85 = .ok (.aload_n 0, 1) := by decide +kernel
theorem dX7_angle_86 : decode cX7_angle 86 = .ok (.getfield 21, 3) := by decide +kernel
theorem dX7_angle_89 : decode cX7_angle 89 = .ok (.iconst 4, 1) := by decide +kernel
theorem dX7_angle_90 : decode cX7_angle 90 = .ok (.laload, 1) := by decide +kernel
theorem dX7_angle_91 : decode cX7_angle 91 = .ok (.aload_n 0, 1) := by decide +kernel
theorem dX7_angle_92 : decode cX7_angle 92 = .ok (.getfield 36, 3) := by decide +kernel
theorem dX7_angle_95 : decode cX7_angle 95 = .ok (.iconst 0, 1) := by decide +kernel
theorem dX7_angle_96 : decode cX7_angle 96 = .ok (.laload, 1) := by decide +kernel
theorem dX7_angle_97 : decode cX7_angle 97 = .ok (.aload_n 0, 1) := by decide +kernel
theorem dX7_angle_98 : decode cX7_angle 98 = .ok (.getfield 36, 3) := by decide +kernel
theorem dX7_angle_101 : decode cX7_angle 101 = .ok (.iconst 4, 1) := by decide +kernel
theorem dX7_angle_102 : decode cX7_angle 102 = .ok (.laload, 1) := by decide +kernel
theorem dX7_angle_103 : decode cX7_angle 103 = .ok (.invokestatic 252, 3) := by decide +kernel
theorem dX7_angle_106 : decode cX7_angle 106 = .ok (.ifCond .le 21, 3) := by decide +kernel
theorem dX7_angle_109 : decode cX7_angle 109 = .ok (.iload 6, 2) := by decide +kernel
theorem dX7_angle_111 : decode cX7_angle 111 = .ok (.istore 4, 2) := by decide +kernel
theorem dX7_angle_113 : decode cX7_angle 113 = .ok (.aload_n 0, 1) := by decide +kernel
theorem dX7_angle_114 : decode cX7_angle 114 = .ok (.getfield 21, 3) := by decide +kernel
theorem dX7_angle_117 : decode cX7_angle 117 = .ok (.iconst 0, 1) := by decide +kernel
theorem dX7_angle_118 : decode cX7_angle 118 = .ok (.aload_n 0, 1) := by decide +kernel
theorem dX7_angle_119 : decode cX7_angle 119 = .ok (.getfield 36, 3) := by decide +kernel
theorem dX7_angle_122 : decode cX7_angle 122 = .ok (.iconst 0, 1) := by decide +kernel
theorem dX7_angle_123 : decode cX7_angle 123 = .ok (.iconst 5, 1) := by decide +kernel
theorem dX7_angle_124 : decode cX7_angle 124 = .ok (.invokestatic 140, 3) := by decide +kernel
theorem dX7_angle_127 : decode cX7_angle 127 = .ok (.iload 6, 2) := by decide +kernel
theorem dX7_angle_129 : decode cX7_angle 129 = .ok (.ifCond .eq 33, 3) := by decide +kernel
theorem dX7_angle_132 : decode cX7_angle 132 = .ok (.aload_n 0, 1) := by decide +kernel
theorem dX7_angle_133 : decode cX7_angle 133 = .ok (.getfield 21, 3) := by decide +kernel
theorem dX7_angle_136 : decode cX7_angle 136 = .ok (.iconst 0, 1) := by decide +kernel
theorem dX7_angle_137 : decode cX7_angle 137 = .ok (.laload, 1) := by decide +kernel
theorem dX7_angle_138 : decode cX7_angle 138 = .ok (.aload_n 0, 1) := by decide +kernel
theorem dX7_angle_139 : decode cX7_angle 139 = .ok (.getfield 21, 3) := by decide +kernel
theorem dX7_angle_142 : decode cX7_angle 142 = .ok (.iconst 4, 1) := by decide +kernel
theorem dX7_angle_143 : decode cX7_angle 143 = .ok (.laload, 1) := by decide +kernel
theorem dX7_angle_144 : decode cX7_angle 144 = .ok (.aload_n 0, 1) := by decide +kernel
theorem dX7_angle_145 : decode cX7_angle 145 = .ok (.getfield 33, 3) := by decide +kernel
theorem dX7_angle_148 : decode cX7_angle 148 = .ok (.iconst 0, 1) := by decide +kernel
theorem dX7_angle_149 : decode cX7_angle 149 = .ok (.laload, 1) := by decide +kernel
theorem dX7_angle_150 : decode cX7_angle 150 = .ok (.aload_n 0, 1) := by decide +kernel
theorem dX7_angle_151 : decode cX7_angle 151 = .ok (.getfield 33, 3) := by decide +kernel
theorem dX7_angle_154 : decode cX7_angle 154 = .ok (.iconst 4, 1) := by decide +kernel
theorem dX7_angle_155 : decode cX7_angle 155 = .ok (.laload, 1) := by decide +kernel
theorem dX7_angle_156 : decode cX7_angle 156 = .ok (.invokestatic 252, 3) := by decide +kernel
theorem dX7_angle_159 : decode cX7_angle 159 = .ok (.ifCond .ge 21, 3) := by decide +kernel
theorem dX7_angle_162 : decode cX7_angle 162 = .ok (.iload 6, 2) := by decide +kernel
theorem dX7_angle_164 : decode cX7_angle 164 = .ok (.istore 5, 2) := by decide +kernel
theorem dX7_angle_166 : decode cX7_angle 166 = .ok (.aload_n 0, 1) := by decide +kernel
theorem dX7_angle_167 : decode cX7_angle 167 = .ok (.getfield 21, 3) := by decide +kernel
theorem dX7_angle_170 : decode cX7_angle 170 = .ok (.iconst 0, 1) := by decide +kernel
theorem dX7_angle_171 : decode cX7_angle 171 = .ok (.aload_n 0, 1) := by decide +kernel
theorem dX7_angle_172 : decode cX7_angle 172 = .ok (.getfield 33, 3) := by decide +kernel
theorem dX7_angle_175 : decode cX7_angle 175 = .ok (.iconst 0, 1) := by decide +kernel
theorem dX7_angle_176 : decode cX7_angle 176 = .ok (.iconst 5, 1) := by decide +kernel
theorem dX7_angle_177 : decode cX7_angle 177 = .ok (.invokestatic 140, 3) := by decide +kernel
theorem dX7_angle_180 : decode cX7_angle 180 = .ok (.iinc 6 1, 3) := by decide +kernel
theorem dX7_angle_183 : decode cX7_angle 183 = .ok (.goto (-140), 3) := by decide +kernel
theorem dX7_angle_186 : decode cX7_angle 186 = .ok (.aload_n 0, 1) := by decide +kernel
theorem dX7_angle_187 : decode cX7_angle 187 = .ok (.getfield 17, 3) := by decide +kernel
theorem dX7_angle_190 : decode cX7_angle 190 = .ok (.iload_n 1, 1) := by decide +kernel
theorem dX7_angle_191 : decode cX7_angle 191 = .ok (.iload_n 3, 1) := by decide +kernel
theorem dX7_angle_192 : decode cX7_angle 192 = .ok (.iastore, 1) := by decide +kernel
theorem dX7_angle_193 : decode cX7_angle 193 = .ok (.iload_n 2, 1) := by decide +kernel
theorem dX7_angle_194 : decode cX7_angle 194 = .ok (.ifCond .ne 8, 3) := by decide +kernel
theorem dX7_angle_197 : decode cX7_angle 197 = .ok (.iload 4, 2) := by decide +kernel
theorem dX7_angle_199 : decode cX7_angle 199 = .ok (.goto 17, 3) := by decide +kernel
theorem dX7_angle_202 : decode cX7_angle 202 = .ok (.iload_n 2, 1) := by decide +kernel
theorem dX7_angle_203 : decode cX7_angle 203 = .ok (.iconst 1, 1) := by decide +kernel
theorem dX7_angle_204 : decode cX7_angle 204 = .ok (.if_icmp .ne 8, 3) := by decide +kernel
theorem dX7_angle_207 : decode cX7_angle 207 = .ok (.iload 5, 2) := by decide +kernel
theorem dX7_angle_209 : decode cX7_angle 209 = .ok (.goto 7, 3) := by decide +kernel
theorem dX7_angle_212 : decode cX7_angle 212 = .ok (.aload_n 0, 1) := by decide +kernel
theorem dX7_angle_213 : decode cX7_angle 213 = .ok (.getfield 235, 3) := by decide +kernel
theorem dX7_angle_216 : decode cX7_angle 216 = .ok (.ireturn, 1) := by decide +kernel
theorem dX7_without_0 : decode cX7_without 0 = .ok (.aload_n 0, 1) := by decide +kernel
theorem dX7_without_1 : decode cX7_without 1 = .ok (.iload_n 1, 1) := by decide +kernel
theorem dX7_without_2 : decode cX7_without 2 = .ok (.invokevirtual 169, 3) := by decide +kernel
theorem dX7_without_5 : decode cX7_without 5 = .ok (.ifCond .eq 21, 3) := by decide +kernel
theorem dX7_without_8 : decode cX7_without 8 = .ok (.iload_n 2, 1) := by decide +kernel
theorem dX7_without_9 : decode cX7_without 9 = .ok (.invokestatic 206, 3) := by decide +kernel
theorem dX7_without_12 : decode cX7_without 12 = .ok (.ifCond .eq 14, 3) := by decide +kernel
theorem dX7_without_15 : decode cX7_without 15 = .ok (.aload_n 0, 1) := by decide +kernel
theorem dX7_without_16 : decode cX7_without 16 = .ok (.getfield 11, 3) := by decide +kernel
theorem dX7_without_19 : decode cX7_without 19 = .ok (.iconst 0, 1) := by decide +kernel
theorem dX7_without_20 : decode cX7_without 20 = .ok (.laload, 1) := by decide +kernel
theorem dX7_without_21 : decode cX7_without 21 = .ok (.lconst 0, 1) := by decide +kernel
theorem dX7_without_22 : decode cX7_without 22 = .ok (.lcmp, 1) := by decide +kernel
theorem dX7_without_23 : decode cX7_without 23 = .ok (.ifCond .ne 7, 3) := by decide +kernel
theorem dX7_without_26 : decode cX7_without 26 = .ok (.ldc2_w 193, 3) := by decide +kernel
theorem dX7_without_29 : decode cX7_without 29 = .ok (.lreturn, 1) := by decide +kernel
theorem dX7_without_30 : decode cX7_without 30 = .ok (.aload_n 0, 1) := by decide +kernel
theorem dX7_without_31 : decode cX7_without 31 = .ok (.aload_n 0, 1) := by decide +kernel
theorem dX7_without_32 : decode cX7_without 32 = .ok (.getfield 11, 3) := by decide +kernel
theorem dX7_without_35 : decode cX7_without 35 = .ok (.invokevirtual 146, 3) := by decide +kernel
theorem dX7_without_38 : decode cX7_without 38 = .ok (.iconst 0, 1) := by decide +kernel
theorem dX7_without_39 : decode cX7_without 39 = .ok (.istore_n 3, 1) := by decide +kernel
theorem dX7_without_40 : decode cX7_without 40 = .ok (.iload_n 3, 1) := by decide +kernel
theorem dX7_without_41 : decode cX7_without 41 = .ok (.aload_n 0, 1) := by decide +kernel
theorem dX7_without_42 : decode cX7_without 42 = .ok (.getfield 91, 3) := by decide +kernel
theorem dX7_without_45 : decode cX7_without 45 = .ok (.if_icmp .ge 27, 3) := by decide +kernel
theorem dX7_without_48 : decode cX7_without 48 = .ok (.iload_n 3, 1) := by decide +kernel
theorem dX7_without_49 : decode cX7_without 49 = .ok (.iload_n 1, 1) := by decide +kernel
theorem dX7_without_50 : decode cX7_without 50 = .ok (.if_icmp .eq 16, 3) := by decide +kernel
theorem dX7_without_53 : decode cX7_without 53 = .ok (.aload_n 0, 1) := by decide +kernel
theorem dX7_without_54 : decode cX7_without 54 = .ok (.getfield 21, 3) := by decide +kernel
theorem dX7_without_57 : decode cX7_without 57 = .ok (.aload_n 0, 1) := by decide +kernel
theorem dX7_without_58 : decode cX7_without 58 = .ok (.getfield 17, 3) := by decide +kernel
theorem dX7_without_61 : decode cX7_without 61 = .ok (.iload_n 3, 1) := by decide +kernel
theorem dX7_without_62 : decode cX7_without 62 = .ok (.iaload, 1) := by decide +kernel
theorem dX7_without_63 : decode cX7_without 63 = .ok (.invokestatic 149, 3) := by decide +kernel
theorem dX7_without_66 : decode cX7_without 66 = .ok (.iinc 3 1, 3) := by decide +kernel
theorem dX7_without_69 : decode cX7_without 69 = .ok (.goto (-29), 3) := by decide +kernel
theorem dX7_without_72 : decode cX7_without 72 = .ok (.aload_n 0, 1) := by decide +kernel
theorem dX7_without_73 : decode cX7_without 73 = .ok (.iload_n 2, 1) := by decide +kernel
theorem dX7_without_74 : decode cX7_without 74 = .ok (.invokevirtual 209, 3) := by decide +kernel
theorem dX7_without_77 : decode cX7_without 77 = .ok (.lreturn, 1) := by decide +kernel
theorem dX7_darkens_0 : decode cX7_darkens 0 = .ok (.iconst 0, 1) := by decide +kernel
theorem dX7_darkens_1 : decode cX7_darkens 1 = .ok (.istore_n 1, 1) := by decide +kernel
theorem dX7_darkens_2 : decode cX7_darkens 2 = .ok (.iload_n 1, 1) := by decide +kernel
theorem dX7_darkens_3 : decode cX7_darkens 3 = .ok (.aload_n 0, 1) := by decide +kernel
theorem dX7_darkens_4 : decode cX7_darkens 4 = .ok (.getfield 91, 3) := by decide +kernel
theorem dX7_darkens_7 : decode cX7_darkens 7 = .ok (.if_icmp .gt 27, 3) := by decide +kernel
theorem dX7_darkens_10 : decode cX7_darkens 10 = .ok (.aload_n 0, 1) := by decide +kernel
theorem dX7_darkens_11 : decode cX7_darkens 11 = .ok (.iload_n 1, 1) := by decide +kernel
theorem dX7_darkens_12 : decode cX7_darkens 12 = .ok (.invokevirtual 195, 3) := by decide +kernel
theorem dX7_darkens_15 : decode cX7_darkens 15 = .ok (.aload_n 0, 1) := by decide +kernel
theorem dX7_darkens_16 : decode cX7_darkens 16 = .ok (.getfield 21, 3) := by decide +kernel
theorem dX7_darkens_19 : decode cX7_darkens 19 = .ok (.iconst 0, 1) := by decide +kernel
theorem dX7_darkens_20 : decode cX7_darkens 20 = .ok (.laload, 1) := by decide +kernel
theorem dX7_darkens_21 : decode cX7_darkens 21 = .ok (.lconst 0, 1) := by decide +kernel
theorem dX7_darkens_22 : decode cX7_darkens 22 = .ok (.lcmp, 1) := by decide +kernel
theorem dX7_darkens_23 : decode cX7_darkens 23 = .ok (.ifCond .ne 5, 3) := by decide +kernel
theorem dX7_darkens_26 : decode cX7_darkens 26 = .ok (.iload_n 1, 1) := by decide +kernel
theorem dX7_darkens_27 : decode cX7_darkens 27 = .ok (.ireturn, 1) := by decide +kernel
theorem dX7_darkens_28 : decode cX7_darkens 28 = .ok (.iinc 1 1, 3) := by decide +kernel
theorem dX7_darkens_31 : decode cX7_darkens 31 = .ok (.goto (-29), 3) := by decide +kernel
theorem dX7_darkens_34 : decode cX7_darkens 34 = .ok (.bipush (-5), 2) := by decide +kernel
theorem dX7_darkens_36 : decode cX7_darkens 36 = .ok (.ireturn, 1) := by decide +kernel
theorem dX7_crossed_0 : decode cX7_crossed 0 = .ok (.iload_n 1, 1) := by decide +kernel
theorem dX7_crossed_1 : decode cX7_crossed 1 = .ok (.i2l, 1) := by decide +kernel
theorem dX7_crossed_2 : decode cX7_crossed 2 = .ok (.lconst 0, 1) := by decide +kernel
theorem dX7_crossed_3 : decode cX7_crossed 3 = .ok (.lconst 1, 1) := by decide +kernel
theorem dX7_crossed_4 : decode cX7_crossed 4 = .ok (.invokestatic 95, 3) := by decide +kernel
theorem dX7_crossed_7 : decode cX7_crossed 7 = .ok (.ifCond .ne 5, 3) := by decide +kernel
theorem dX7_crossed_10 : decode cX7_crossed 10 = .ok (.iconst (-1), 1) := by decide +kernel
theorem dX7_crossed_11 : decode cX7_crossed 11 = .ok (.ireturn, 1) := by decide +kernel
theorem dX7_crossed_12 : decode cX7_crossed 12 = .ok (.iconst 0, 1) := by decide +kernel
theorem dX7_crossed_13 : decode cX7_crossed 13 = .ok (.istore_n 2, 1) := by decide +kernel
theorem dX7_crossed_14 : decode cX7_crossed 14 = .ok (.bipush (-5), 2) := by decide +kernel
theorem dX7_crossed_16 : decode cX7_crossed 16 = .ok (.istore_n 3, 1) := by decide +kernel
theorem dX7_crossed_17 : decode cX7_crossed 17 = .ok (.iconst 0, 1) := by decide +kernel
theorem dX7_crossed_18 : decode cX7_crossed 18 = .ok (.istore 4, 2) := by decide +kernel
theorem dX7_crossed_20 : decode cX7_crossed 20 = .ok (.iload 4, 2) := by decide +kernel
theorem dX7_crossed_22 : decode cX7_crossed 22 = .ok (.aload_n 0, 1) := by decide +kernel
theorem dX7_crossed_23 : decode cX7_crossed 23 = .ok (.getfield 91, 3) := by decide +kernel
theorem dX7_crossed_26 : decode cX7_crossed 26 = .ok (.if_icmp .ge 94, 3) := by decide +kernel
theorem dX7_crossed_29 : decode cX7_crossed 29 = .ok (.iload 4, 2) := by decide +kernel
theorem dX7_crossed_31 : decode cX7_crossed 31 = .ok (.iconst 1, 1) := by decide +kernel
theorem dX7_crossed_32 : decode cX7_crossed 32 = .ok (.iadd, 1) := by decide +kernel
theorem dX7_crossed_33 : decode cX7_crossed 33 = .ok (.istore 5, 2) := by decide +kernel
theorem dX7_crossed_35 : decode cX7_crossed 35 = .ok (.iload 5, 2) := by decide +kernel
theorem dX7_crossed_37 : decode cX7_crossed 37 = .ok (.aload_n 0, 1) := by decide +kernel
theorem dX7_crossed_38 : decode cX7_crossed 38 = .ok (.getfield 91, 3) := by decide +kernel
theorem dX7_crossed_41 : decode cX7_crossed 41 = .ok (.if_icmp .ge 73, 3) := by decide +kernel
theorem dX7_crossed_44 : decode cX7_crossed 44 = .ok (.aload_n 0, 1) := by decide +kernel
theorem dX7_crossed_45 : decode cX7_crossed 45 = .ok (.iconst 0, 1) := by decide +kernel
theorem dX7_crossed_46 : decode cX7_crossed 46 = .ok (.invokevirtual 265, 3) := by decide +kernel
theorem dX7_crossed_49 : decode cX7_crossed 49 = .ok (.aload_n 0, 1) := by decide +kernel
theorem dX7_crossed_50 : decode cX7_crossed 50 = .ok (.getfield 21, 3) := by decide +kernel
theorem dX7_crossed_53 : decode cX7_crossed 53 = .ok (.aload_n 0, 1) := by decide +kernel
theorem dX7_crossed_54 : decode cX7_crossed 54 = .ok (.getfield 17, 3) := by decide +kernel
theorem dX7_crossed_57 : decode cX7_crossed 57 = .ok (.iload 4, 2) := by decide +kernel
theorem dX7_crossed_59 : decode cX7_crossed 59 = .ok (.iaload, 1) := by decide +kernel
theorem dX7_crossed_60 : decode cX7_crossed 60 = .ok (.invokestatic 149, 3) := by decide +kernel
theorem dX7_crossed_63 : decode cX7_crossed 63 = .ok (.aload_n 0, 1) := by decide +kernel
theorem dX7_crossed_64 : decode cX7_crossed 64 = .ok (.getfield 21, 3) := by decide +kernel
theorem dX7_crossed_67 : decode cX7_crossed 67 = .ok (.aload_n 0, 1) := by decide +kernel
theorem dX7_crossed_68 : decode cX7_crossed 68 = .ok (.getfield 17, 3) := by decide +kernel
theorem dX7_crossed_71 : decode cX7_crossed 71 = .ok (.iload 5, 2) := by decide +kernel
theorem dX7_crossed_73 : decode cX7_crossed 73 = .ok (.iaload, 1) := by decide +kernel
theorem dX7_crossed_74 : decode cX7_crossed 74 = .ok (.invokestatic 149, 3) := by decide +kernel
theorem dX7_crossed_77 : decode cX7_crossed 77 = .ok (.aload_n 0, 1) := by decide +kernel
theorem dX7_crossed_78 : decode cX7_crossed 78 = .ok (.getfield 21, 3) := by decide +kernel
theorem dX7_crossed_81 : decode cX7_crossed 81 = .ok (.iconst 0, 1) := by decide +kernel
theorem dX7_crossed_82 : decode cX7_crossed 82 = .ok (.laload, 1) := by decide +kernel
theorem dX7_crossed_83 : decode cX7_crossed 83 = .ok (.lconst 0, 1) := by decide +kernel
theorem dX7_crossed_84 : decode cX7_crossed 84 = .ok (.lcmp, 1) := by decide +kernel
theorem dX7_crossed_85 : decode cX7_crossed 85 = .ok (.ifCond .ne 23, 3) := by decide +kernel
theorem dX7_crossed_88 : decode cX7_crossed 88 = .ok (.iload_n 2, 1) := by decide +kernel
theorem dX7_crossed_89 : decode cX7_crossed 89 = .ok (.ifCond .ne 14, 3) := by decide +kernel
theorem dX7_crossed_92 : decode cX7_crossed 92 = .ok (.bipush 10, 2) := by decide +kernel
theorem dX7_crossed_94 : decode cX7_crossed 94 = .ok (.iload 4, 2) := by decide +kernel
theorem dX7_crossed_96 : decode cX7_crossed 96 = .ok (.imul, 1) := by decide +kernel
theorem dX7_crossed_97 : decode cX7_crossed 97 = .ok (.iload 5, 2) := by decide +kernel
theorem dX7_crossed_99 : decode cX7_crossed 99 = .ok (.iadd, 1) := by decide +kernel
theorem dX7_crossed_100 : decode cX7_crossed 100 = .ok (.goto 4, 3) := by decide +kernel
theorem dX7_crossed_103 : decode cX7_crossed 103 = .ok (.iload_n 3, 1) := by decide +kernel
theorem dX7_crossed_104 : decode cX7_crossed 104 = .ok (.istore_n 3, 1) := by decide +kernel
theorem dX7_crossed_105 : decode cX7_crossed 105 = .ok (.iinc 2 1, 3) := by decide +kernel
theorem dX7_crossed_108 : decode cX7_crossed 108 = .ok (.iinc 5 1, 3) := by decide +kernel
theorem dX7_crossed_111 : decode cX7_crossed 111 = .ok (.goto (-76), 3) := by decide +kernel
theorem dX7_crossed_114 : decode cX7_crossed 114 = .ok (.iinc 4 1, 3) := by decide +kernel
theorem dX7_crossed_117 : decode cX7_crossed 117 = .ok (.goto (-97), 3) := by decide +kernel
theorem dX7_crossed_120 : decode cX7_crossed 120 = .ok (.iload_n 1, 1) := by decide +kernel
theorem dX7_crossed_121 : decode cX7_crossed 121 = .ok (.ifCond .ne 7, 3) := by decide +kernel
theorem dX7_crossed_124 : decode cX7_crossed 124 = .ok (.iload_n 2, 1) := by decide +kernel
theorem dX7_crossed_125 : decode cX7_crossed 125 = .ok (.goto 4, 3) := by decide +kernel
theorem dX7_crossed_128 : decode cX7_crossed 128 = .ok (.iload_n 3, 1) := by decide +kernel
theorem dX7_crossed_129 : decode cX7_crossed 129 = .ok (.ireturn, 1) := by decide +kernel
theorem dX7_tally_0 : decode cX7_tally 0 = .ok (.iload_n 1, 1) := by decide +kernel
theorem dX7_tally_1 : decode cX7_tally 1 = .ok (.i2l, 1) := by decide +kernel
theorem dX7_tally_2 : decode cX7_tally 2 = .ok (.lconst 0, 1) := by decide +kernel
theorem dX7_tally_3 : decode cX7_tally 3 = .ok (.ldc2_w 99, 3) := by decide +kernel
theorem dX7_tally_6 : decode cX7_tally 6 = .ok (.invokestatic 95, 3) := by decide +kernel
theorem dX7_tally_9 : decode cX7_tally 9 = .ok (.ifCond .ne 5, 3) := by decide +kernel
theorem dX7_tally_12 : decode cX7_tally 12 = .ok (.iconst (-1), 1) := by decide +kernel
theorem dX7_tally_13 : decode cX7_tally 13 = .ok (.ireturn, 1) := by decide +kernel
theorem dX7_tally_14 : decode cX7_tally 14 = .ok (.iconst 0, 1) := by decide +kernel
theorem dX7_tally_15 : decode cX7_tally 15 = .ok (.istore_n 2, 1) := by decide +kernel
theorem dX7_tally_16 : decode cX7_tally 16 = .ok (.bipush (-5), 2) := by decide +kernel
theorem dX7_tally_18 : decode cX7_tally 18 = .ok (.istore_n 3, 1) := by decide +kernel
theorem dX7_tally_19 : decode cX7_tally 19 = .ok (.iconst 0, 1) := by decide +kernel
theorem dX7_tally_20 : decode cX7_tally 20 = .ok (.istore 4, 2) := by decide +kernel
theorem dX7_tally_22 : decode cX7_tally 22 = .ok (.iconst 0, 1) := by decide +kernel
theorem dX7_tally_23 : decode cX7_tally 23 = .ok (.istore 5, 2) := by decide +kernel
theorem dX7_tally_25 : decode cX7_tally 25 = .ok (.iload 5, 2) := by decide +kernel
theorem dX7_tally_27 : decode cX7_tally 27 = .ok (.aload_n 0, 1) := by decide +kernel
theorem dX7_tally_28 : decode cX7_tally 28 = .ok (.getfield 91, 3) := by decide +kernel
theorem dX7_tally_31 : decode cX7_tally 31 = .ok (.if_icmp .ge 128, 3) := by decide +kernel
theorem dX7_tally_34 : decode cX7_tally 34 = .ok (.iconst 0, 1) := by decide +kernel
theorem dX7_tally_35 : decode cX7_tally 35 = .ok (.istore 6, 2) := by decide +kernel
theorem dX7_tally_37 : decode cX7_tally 37 = .ok (.iconst 1, 1) := by decide +kernel
theorem dX7_tally_38 : decode cX7_tally 38 = .ok (.istore 7, 2) := by decide +kernel
theorem dX7_tally_40 : decode cX7_tally 40 = .ok (.iconst 0, 1) := by decide +kernel
theorem dX7_tally_41 : decode cX7_tally 41 = .ok (.istore 8, 2) := by decide +kernel
theorem dX7_tally_43 : decode cX7_tally 43 = .ok (.iload 8, 2) := by decide +kernel
theorem dX7_tally_45 : decode cX7_tally 45 = .ok (.aload_n 0, 1) := by decide +kernel
theorem dX7_tally_46 : decode cX7_tally 46 = .ok (.getfield 91, 3) := by decide +kernel
theorem dX7_tally_49 : decode cX7_tally 49 = .ok (.if_icmp .ge 72, 3) := by decide +kernel
theorem dX7_tally_52 : decode cX7_tally 52 = .ok (.iload 6, 2) := by decide +kernel
theorem dX7_tally_54 : decode cX7_tally 54 = .ok (.aload_n 0, 1) := by decide +kernel
theorem dX7_tally_55 : decode cX7_tally 55 = .ok (.getfield 17, 3) := by decide +kernel
theorem dX7_tally_58 : decode cX7_tally 58 = .ok (.iload 8, 2) := by decide +kernel
theorem dX7_tally_60 : decode cX7_tally 60 = .ok (.iaload, 1) := by decide +kernel
theorem dX7_tally_61 : decode cX7_tally 61 = .ok (.aload_n 0, 1) := by decide +kernel
theorem dX7_tally_62 : decode cX7_tally 62 = .ok (.getfield 17, 3) := by decide +kernel
theorem dX7_tally_65 : decode cX7_tally 65 = .ok (.iload 5, 2) := by decide +kernel
theorem dX7_tally_67 : decode cX7_tally 67 = .ok (.iaload, 1) := by decide +kernel
theorem dX7_tally_68 : decode cX7_tally 68 = .ok (.if_icmp .ne 7, 3) := by decide +kernel
theorem dX7_tally_71 : decode cX7_tally 71 = .ok (.iconst 1, 1) := by decide +kernel
theorem dX7_tally_72 : decode cX7_tally 72 = .ok (.goto 4, 3) := by decide +kernel
theorem dX7_tally_75 : decode cX7_tally 75 = .ok (.iconst 0, 1) := by decide +kernel
theorem dX7_tally_76 : decode cX7_tally 76 = .ok (.iadd, 1) := by decide +kernel
theorem dX7_tally_77 : decode cX7_tally 77 = .ok (.istore 6, 2) := by decide +kernel
theorem dX7_tally_79 : decode cX7_tally 79 = .ok (.iload 7, 2) := by decide +kernel
theorem dX7_tally_81 : decode cX7_tally 81 = .ok (.ifCond .eq 31, 3) := by decide +kernel
theorem dX7_tally_84 : decode cX7_tally 84 = .ok (.iload 8, 2) := by decide +kernel
theorem dX7_tally_86 : decode cX7_tally 86 = .ok (.iload 5, 2) := by decide +kernel
theorem dX7_tally_88 : decode cX7_tally 88 = .ok (.if_icmp .ge 20, 3) := by decide +kernel
theorem dX7_tally_91 : decode cX7_tally 91 = .ok (.aload_n 0, 1) := by decide +kernel
theorem dX7_tally_92 : decode cX7_tally 92 = .ok (.getfield 17, 3) := by decide +kernel
theorem dX7_tally_95 : decode cX7_tally 95 = .ok (.iload 8, 2) := by decide +kernel
theorem dX7_tally_97 : decode cX7_tally 97 = .ok (.iaload, 1) := by decide +kernel
theorem dX7_tally_98 : decode cX7_tally 98 = .ok (.aload_n 0, 1) := by decide +kernel
theorem dX7_tally_99 : decode cX7_tally 99 = .ok (.getfield 17, 3) := by decide +kernel
theorem dX7_tally_102 : decode cX7_tally 102 = .ok (.iload 5, 2) := by decide +kernel
theorem dX7_tally_104 : decode cX7_tally 104 = .ok (.iaload, 1) := by decide +kernel
theorem dX7_tally_105 : decode cX7_tally 105 = .ok (.if_icmp .eq 7, 3) := by decide +kernel
theorem dX7_tally_108 : decode cX7_tally 108 = .ok (.iconst 1, 1) := by decide +kernel
theorem dX7_tally_109 : decode cX7_tally 109 = .ok (.goto 4, 3) := by decide +kernel
theorem dX7_tally_112 : decode cX7_tally 112 = .ok (.iconst 0, 1) := by decide +kernel
theorem dX7_tally_113 : decode cX7_tally 113 = .ok (.istore 7, 2) := by decide +kernel
theorem dX7_tally_115 : decode cX7_tally 115 = .ok (.iinc 8 1, 3) := by decide +kernel
theorem dX7_tally_118 : decode cX7_tally 118 = .ok (.goto (-75), 3) := by decide +kernel
theorem dX7_tally_121 : decode cX7_tally 121 = .ok (.iload_n 2, 1) := by decide +kernel
theorem dX7_tally_122 : decode cX7_tally 122 = .ok (.iload 7, 2) := by decide +kernel
theorem dX7_tally_124 : decode cX7_tally 124 = .ok (.ifCond .eq 7, 3) := by decide +kernel
theorem dX7_tally_127 : decode cX7_tally 127 = .ok (.iconst 1, 1) := by decide +kernel
theorem dX7_tally_128 : decode cX7_tally 128 = .ok (.goto 4, 3) := by decide +kernel
theorem dX7_tally_131 : decode cX7_tally 131 = .ok (.iconst 0, 1) := by decide +kernel
theorem dX7_tally_132 : decode cX7_tally 132 = .ok (.iadd, 1) := by decide +kernel
theorem dX7_tally_133 : decode cX7_tally 133 = .ok (.istore_n 2, 1) := by decide +kernel
theorem dX7_tally_134 : decode cX7_tally 134 = .ok (.iload 6, 2) := by decide +kernel
theorem dX7_tally_136 : decode cX7_tally 136 = .ok (.iload 4, 2) := by decide +kernel
theorem dX7_tally_138 : decode cX7_tally 138 = .ok (.if_icmp .le 15, 3) := by decide +kernel
theorem dX7_tally_141 : decode cX7_tally 141 = .ok (.aload_n 0, 1) := by decide +kernel
theorem dX7_tally_142 : decode cX7_tally 142 = .ok (.getfield 17, 3) := by decide +kernel
theorem dX7_tally_145 : decode cX7_tally 145 = .ok (.iload 5, 2) := by decide +kernel
theorem dX7_tally_147 : decode cX7_tally 147 = .ok (.iaload, 1) := by decide +kernel
theorem dX7_tally_148 : decode cX7_tally 148 = .ok (.istore_n 3, 1) := by decide +kernel
theorem dX7_tally_149 : decode cX7_tally 149 = .ok (.iload 6, 2) := by decide +kernel
theorem dX7_tally_151 : decode cX7_tally 151 = .ok (.istore 4, 2) := by decide +kernel
theorem dX7_tally_153 : decode cX7_tally 153 = .ok (.iinc 5 1, 3) := by decide +kernel
theorem dX7_tally_156 : decode cX7_tally 156 = .ok (.goto (-131), 3) := by decide +kernel
theorem dX7_tally_159 : decode cX7_tally 159 = .ok (.iload_n 1, 1) := by decide +kernel
theorem dX7_tally_160 : decode cX7_tally 160 = .ok (.ifCond .ne 7, 3) := by decide +kernel
theorem dX7_tally_163 : decode cX7_tally 163 = .ok (.iload_n 2, 1) := by decide +kernel
theorem dX7_tally_164 : decode cX7_tally 164 = .ok (.goto 14, 3) := by decide +kernel
theorem dX7_tally_167 : decode cX7_tally 167 = .ok (.iload_n 1, 1) := by decide +kernel
theorem dX7_tally_168 : decode cX7_tally 168 = .ok (.iconst 1, 1) := by decide +kernel
theorem dX7_tally_169 : decode cX7_tally 169 = .ok (.if_icmp .ne 7, 3) := by decide +kernel
theorem dX7_tally_172 : decode cX7_tally 172 = .ok (.iload_n 3, 1) := by decide +kernel
theorem dX7_tally_173 : decode cX7_tally 173 = .ok (.goto 5, 3) := by decide +kernel
theorem dX7_tally_176 : decode cX7_tally 176 = .ok (.iload 4, 2) := by decide +kernel
theorem dX7_tally_178 : decode cX7_tally 178 = .ok (.ireturn, 1) := by decide +kernel
theorem dX7_isList_0 : decode cX7_isList 0 = .ok (.iload_n 0, 1) := by decide +kernel
theorem dX7_isList_1 : decode cX7_isList 1 = .ok (.i2l, 1) := by decide +kernel
theorem dX7_isList_2 : decode cX7_isList 2 = .ok (.lconst 0, 1) := by decide +kernel
theorem dX7_isList_3 : decode cX7_isList 3 = .ok (.ldc2_w 99, 3) := by decide +kernel
theorem dX7_isList_6 : decode cX7_isList 6 = .ok (.invokestatic 95, 3) := by decide +kernel
theorem dX7_isList_9 : decode cX7_isList 9 = .ok (.ireturn, 1) := by decide +kernel
theorem dX7_becomes_0 : decode cX7_becomes 0 = .ok (.aload_n 0, 1) := by decide +kernel
theorem dX7_becomes_1 : decode cX7_becomes 1 = .ok (.getfield 45, 3) := by decide +kernel
theorem dX7_becomes_4 : decode cX7_becomes 4 = .ok (.iload_n 1, 1) := by decide +kernel
theorem dX7_becomes_5 : decode cX7_becomes 5 = .ok (.iload_n 2, 1) := by decide +kernel
theorem dX7_becomes_6 : decode cX7_becomes 6 = .ok (.iastore, 1) := by decide +kernel
theorem dX7_becomes_7 : decode cX7_becomes 7 = .ok (.iconst 0, 1) := by decide +kernel
theorem dX7_becomes_8 : decode cX7_becomes 8 = .ok (.istore_n 3, 1) := by decide +kernel
theorem dX7_becomes_9 : decode cX7_becomes 9 = .ok (.iload_n 3, 1) := by decide +kernel
theorem dX7_becomes_10 : decode cX7_becomes 10 = .ok (.bipush 12, 2) := by decide +kernel
theorem dX7_becomes_12 : decode cX7_becomes 12 = .ok (.if_icmp .ge 21, 3) := by decide +kernel
theorem dX7_becomes_15 : decode cX7_becomes 15 = .ok (.aload_n 0, 1) := by decide +kernel
theorem dX7_becomes_16 : decode cX7_becomes 16 = .ok (.getfield 42, 3) := by decide +kernel
theorem dX7_becomes_19 : decode cX7_becomes 19 = .ok (.bipush 12, 2) := by decide +kernel
theorem dX7_becomes_21 : decode cX7_becomes 21 = .ok (.iload_n 1, 1) := by decide +kernel
theorem dX7_becomes_22 : decode cX7_becomes 22 = .ok (.imul, 1) := by decide +kernel
theorem dX7_becomes_23 : decode cX7_becomes 23 = .ok (.iload_n 3, 1) := by decide +kernel
theorem dX7_becomes_24 : decode cX7_becomes 24 = .ok (.iadd, 1) := by decide +kernel
theorem dX7_becomes_25 : decode cX7_becomes 25 = .ok (.lconst 0, 1) := by decide +kernel
theorem dX7_becomes_26 : decode cX7_becomes 26 = .ok (.lastore, 1) := by decide +kernel
theorem dX7_becomes_27 : decode cX7_becomes 27 = .ok (.iinc 3 1, 3) := by decide +kernel
theorem dX7_becomes_30 : decode cX7_becomes 30 = .ok (.goto (-21), 3) := by decide +kernel
theorem dX7_becomes_33 : decode cX7_becomes 33 = .ok (.return_, 1) := by decide +kernel
theorem dX7_list_0 : decode cX7_list 0 = .ok (.iload_n 1, 1) := by decide +kernel
theorem dX7_list_1 : decode cX7_list 1 = .ok (.invokestatic 268, 3) := by decide +kernel
theorem dX7_list_4 : decode cX7_list 4 = .ok (.ifCond .ne 5, 3) := by decide +kernel
theorem dX7_list_7 : decode cX7_list 7 = .ok (.iconst (-1), 1) := by decide +kernel
theorem dX7_list_8 : decode cX7_list 8 = .ok (.ireturn, 1) := by decide +kernel
theorem dX7_list_9 : decode cX7_list 9 = .ok (.iload_n 2, 1) := by decide +kernel
theorem dX7_list_10 : decode cX7_list 10 = .ok (.bipush 12, 2) := by decide +kernel
theorem dX7_list_12 : decode cX7_list 12 = .ok (.if_icmp .le 6, 3) := by decide +kernel
theorem dX7_list_15 : decode cX7_list 15 = .ok (.bipush (-2), 2) := by decide +kernel
theorem dX7_list_17 : decode cX7_list 17 = .ok (.ireturn, 1) := by decide +kernel
theorem dX7_list_18 : decode cX7_list 18 = .ok (.iload_n 2, 1) := by decide +kernel
theorem dX7_list_19 : decode cX7_list 19 = .ok (.iconst (-1), 1) := by decide +kernel
theorem dX7_list_20 : decode cX7_list 20 = .ok (.if_icmp .ge 6, 3) := by decide +kernel
theorem dX7_list_23 : decode cX7_list 23 = .ok (.bipush (-14), 2) := by decide +kernel
theorem dX7_list_25 : decode cX7_list 25 = .ok (.ireturn, 1) := by decide +kernel
theorem dX7_list_26 : decode cX7_list 26 = .ok (.aload_n 0, 1) := by decide +kernel
theorem dX7_list_27 : decode cX7_list 27 = .ok (.iload_n 1, 1) := by decide +kernel
theorem dX7_list_28 : decode cX7_list 28 = .ok (.iload_n 2, 1) := by decide +kernel
theorem dX7_list_29 : decode cX7_list 29 = .ok (.invokevirtual 271, 3) := by decide +kernel
theorem dX7_list_32 : decode cX7_list 32 = .ok (.iconst 1, 1) := by decide +kernel
theorem dX7_list_33 : decode cX7_list 33 = .ok (.ireturn, 1) := by decide +kernel
theorem dX7_put_0 : decode cX7_put 0 = .ok (.iload_n 1, 1) := by decide +kernel
theorem dX7_put_1 : decode cX7_put 1 = .ok (.invokestatic 268, 3) := by decide +kernel
theorem dX7_put_4 : decode cX7_put 4 = .ok (.ifCond .ne 5, 3) := by decide +kernel
theorem dX7_put_7 : decode cX7_put 7 = .ok (.iconst (-1), 1) := by decide +kernel
theorem dX7_put_8 : decode cX7_put 8 = .ok (.ireturn, 1) := by decide +kernel
theorem dX7_put_9 : decode cX7_put 9 = .ok (.aload_n 0, 1) := by decide +kernel
theorem dX7_put_10 : decode cX7_put 10 = .ok (.getfield 45, 3) := by decide +kernel
theorem dX7_put_13 : decode cX7_put 13 = .ok (.iload_n 1, 1) := by decide +kernel
theorem dX7_put_14 : decode cX7_put 14 = .ok (.iaload, 1) := by decide +kernel
theorem dX7_put_15 : decode cX7_put 15 = .ok (.iconst (-1), 1) := by decide +kernel
theorem dX7_put_16 : decode cX7_put 16 = .ok (.if_icmp .ne 6, 3) := by decide +kernel
theorem dX7_put_19 : decode cX7_put 19 = .ok (.bipush (-11), 2) := by decide +kernel
theorem dX7_put_21 : decode cX7_put 21 = .ok (.ireturn, 1) := by decide +kernel
theorem dX7_put_22 : decode cX7_put 22 = .ok (.iload_n 2, 1) := by decide +kernel
theorem dX7_put_23 : decode cX7_put 23 = .ok (.i2l, 1) := by decide +kernel
theorem dX7_put_24 : decode cX7_put 24 = .ok (.lconst 0, 1) := by decide +kernel
theorem dX7_put_25 : decode cX7_put 25 = .ok (.aload_n 0, 1) := by decide +kernel
theorem dX7_put_26 : decode cX7_put 26 = .ok (.getfield 45, 3) := by decide +kernel
theorem dX7_put_29 : decode cX7_put 29 = .ok (.iload_n 1, 1) := by decide +kernel
theorem dX7_put_30 : decode cX7_put 30 = .ok (.iaload, 1) := by decide +kernel
theorem dX7_put_31 : decode cX7_put 31 = .ok (.iconst 1, 1) := by decide +kernel
theorem dX7_put_32 : decode cX7_put 32 = .ok (.isub, 1) := by decide +kernel
theorem dX7_put_33 : decode cX7_put 33 = .ok (.i2l, 1) := by decide +kernel
theorem dX7_put_34 : decode cX7_put 34 = .ok (.invokestatic 95, 3) := by decide +kernel
theorem dX7_put_37 : decode cX7_put 37 = .ok (.ifCond .ne 6, 3) := by decide +kernel
theorem dX7_put_40 : decode cX7_put 40 = .ok (.bipush (-13), 2) := by decide +kernel
theorem dX7_put_42 : decode cX7_put 42 = .ok (.ireturn, 1) := by decide +kernel
theorem dX7_put_43 : decode cX7_put 43 = .ok (.aload_n 0, 1) := by decide +kernel
theorem dX7_put_44 : decode cX7_put 44 = .ok (.getfield 42, 3) := by decide +kernel
theorem dX7_put_47 : decode cX7_put 47 = .ok (.bipush 12, 2) := by decide +kernel
theorem dX7_put_49 : decode cX7_put 49 = .ok (.iload_n 1, 1) := by decide +kernel
theorem dX7_put_50 : decode cX7_put 50 = .ok (.imul, 1) := by decide +kernel
theorem dX7_put_51 : decode cX7_put 51 = .ok (.iload_n 2, 1) := by decide +kernel
theorem dX7_put_52 : decode cX7_put 52 = .ok (.iadd, 1) := by decide +kernel
theorem dX7_put_53 : decode cX7_put 53 = .ok (.lload_n 3, 1) := by decide +kernel
theorem dX7_put_54 : decode cX7_put 54 = .ok (.lastore, 1) := by decide +kernel
theorem dX7_put_55 : decode cX7_put 55 = .ok (.iconst 1, 1) := by decide +kernel
theorem dX7_put_56 : decode cX7_put 56 = .ok (.ireturn, 1) := by decide +kernel
theorem dX7_get_0 : decode cX7_get 0 = .ok (.iload_n 1, 1) := by decide +kernel
theorem dX7_get_1 : decode cX7_get 1 = .ok (.invokestatic 268, 3) := by decide +kernel
theorem dX7_get_4 : decode cX7_get 4 = .ok (.ifCond .eq 35, 3) := by decide +kernel
theorem dX7_get_7 : decode cX7_get 7 = .ok (.iload_n 2, 1) := by decide +kernel
theorem dX7_get_8 : decode cX7_get 8 = .ok (.i2l, 1) := by decide +kernel
theorem dX7_get_9 : decode cX7_get 9 = .ok (.lconst 0, 1) := by decide +kernel
theorem dX7_get_10 : decode cX7_get 10 = .ok (.aload_n 0, 1) := by decide +kernel
theorem dX7_get_11 : decode cX7_get 11 = .ok (.getfield 45, 3) := by decide +kernel
theorem dX7_get_14 : decode cX7_get 14 = .ok (.iload_n 1, 1) := by decide +kernel
theorem dX7_get_15 : decode cX7_get 15 = .ok (.iaload, 1) := by decide +kernel
theorem dX7_get_16 : decode cX7_get 16 = .ok (.iconst 1, 1) := by decide +kernel
theorem dX7_get_17 : decode cX7_get 17 = .ok (.isub, 1) := by decide +kernel
theorem dX7_get_18 : decode cX7_get 18 = .ok (.i2l, 1) := by decide +kernel
theorem dX7_get_19 : decode cX7_get 19 = .ok (.invokestatic 95, 3) := by decide +kernel
theorem dX7_get_22 : decode cX7_get 22 = .ok (.ifCond .eq 17, 3) := by decide +kernel
theorem dX7_get_25 : decode cX7_get 25 = .ok (.aload_n 0, 1) := by decide +kernel
theorem dX7_get_26 : decode cX7_get 26 = .ok (.getfield 42, 3) := by decide +kernel
theorem dX7_get_29 : decode cX7_get 29 = .ok (.bipush 12, 2) := by decide +kernel
theorem dX7_get_31 : decode cX7_get 31 = .ok (.iload_n 1, 1) := by decide +kernel
theorem dX7_get_32 : decode cX7_get 32 = .ok (.imul, 1) := by decide +kernel
theorem dX7_get_33 : decode cX7_get 33 = .ok (.iload_n 2, 1) := by decide +kernel
theorem dX7_get_34 : decode cX7_get 34 = .ok (.iadd, 1) := by decide +kernel
theorem dX7_get_35 : decode cX7_get 35 = .ok (.laload, 1) := by decide +kernel
theorem dX7_get_36 : decode cX7_get 36 = .ok (.goto 6, 3) := by decide +kernel
theorem dX7_get_39 : decode cX7_get 39 = .ok (.ldc2_w 193, 3) := by decide +kernel
theorem dX7_get_42 : decode cX7_get 42 = .ok (.lreturn, 1) := by decide +kernel
theorem dX7_lays_0 : decode cX7_lays 0 = .ok (.aload_n 0, 1) := by decide +kernel
theorem dX7_lays_1 : decode cX7_lays 1 = .ok (.iload_n 1, 1) := by decide +kernel
theorem dX7_lays_2 : decode cX7_lays 2 = .ok (.iconst 5, 1) := by decide +kernel
theorem dX7_lays_3 : decode cX7_lays 3 = .ok (.invokevirtual 271, 3) := by decide +kernel
theorem dX7_lays_6 : decode cX7_lays 6 = .ok (.aload_n 0, 1) := by decide +kernel
theorem dX7_lays_7 : decode cX7_lays 7 = .ok (.getfield 21, 3) := by decide +kernel
theorem dX7_lays_10 : decode cX7_lays 10 = .ok (.iconst 0, 1) := by decide +kernel
theorem dX7_lays_11 : decode cX7_lays 11 = .ok (.aload_n 0, 1) := by decide +kernel
theorem dX7_lays_12 : decode cX7_lays 12 = .ok (.getfield 42, 3) := by decide +kernel
theorem dX7_lays_15 : decode cX7_lays 15 = .ok (.bipush 12, 2) := by decide +kernel
theorem dX7_lays_17 : decode cX7_lays 17 = .ok (.iload_n 1, 1) := by decide +kernel
theorem dX7_lays_18 : decode cX7_lays 18 = .ok (.imul, 1) := by decide +kernel
theorem dX7_lays_19 : decode cX7_lays 19 = .ok (.iconst 5, 1) := by decide +kernel
theorem dX7_lays_20 : decode cX7_lays 20 = .ok (.invokestatic 140, 3) := by decide +kernel
theorem dX7_lays_23 : decode cX7_lays 23 = .ok (.iconst 1, 1) := by decide +kernel
theorem dX7_lays_24 : decode cX7_lays 24 = .ok (.ireturn, 1) := by decide +kernel
theorem dX7_lay_0 : decode cX7_lay 0 = .ok (.iload_n 1, 1) := by decide +kernel
theorem dX7_lay_1 : decode cX7_lay 1 = .ok (.invokestatic 268, 3) := by decide +kernel
theorem dX7_lay_4 : decode cX7_lay 4 = .ok (.ifCond .eq 11, 3) := by decide +kernel
theorem dX7_lay_7 : decode cX7_lay 7 = .ok (.aload_n 0, 1) := by decide +kernel
theorem dX7_lay_8 : decode cX7_lay 8 = .ok (.iload_n 2, 1) := by decide +kernel
theorem dX7_lay_9 : decode cX7_lay 9 = .ok (.invokevirtual 188, 3) := by decide +kernel
theorem dX7_lay_12 : decode cX7_lay 12 = .ok (.ifCond .ne 5, 3) := by decide +kernel
theorem dX7_lay_15 : decode cX7_lay 15 = .ok (.iconst (-1), 1) := by decide +kernel
theorem dX7_lay_16 : decode cX7_lay 16 = .ok (.ireturn, 1) := by decide +kernel
theorem dX7_lay_17 : decode cX7_lay 17 = .ok (.aload_n 0, 1) := by decide +kernel
theorem dX7_lay_18 : decode cX7_lay 18 = .ok (.iload_n 2, 1) := by decide +kernel
theorem dX7_lay_19 : decode cX7_lay 19 = .ok (.invokevirtual 195, 3) := by decide +kernel
theorem dX7_lay_22 : decode cX7_lay 22 = .ok (.aload_n 0, 1) := by decide +kernel
theorem dX7_lay_23 : decode cX7_lay 23 = .ok (.iload_n 1, 1) := by decide +kernel
theorem dX7_lay_24 : decode cX7_lay 24 = .ok (.invokevirtual 274, 3) := by decide +kernel
theorem dX7_lay_27 : decode cX7_lay 27 = .ok (.ireturn, 1) := by decide +kernel
theorem dX7_readings_0 : decode cX7_readings 0 = .ok (.iload_n 1, 1) := by decide +kernel
theorem dX7_readings_1 : decode cX7_readings 1 = .ok (.invokestatic 268, 3) := by decide +kernel
theorem dX7_readings_4 : decode cX7_readings 4 = .ok (.ifCond .ne 5, 3) := by decide +kernel
theorem dX7_readings_7 : decode cX7_readings 7 = .ok (.iconst (-1), 1) := by decide +kernel
theorem dX7_readings_8 : decode cX7_readings 8 = .ok (.ireturn, 1) := by decide +kernel
theorem dX7_readings_9 : decode cX7_readings 9 = .ok (.aload_n 0, 1) := by decide +kernel
theorem dX7_readings_10 : decode cX7_readings 10 = .ok (.aload_n 0, 1) := by decide +kernel
theorem dX7_readings_11 : decode cX7_readings 11 = .ok (.getfield 91, 3) := by decide +kernel
theorem dX7_readings_14 : decode cX7_readings 14 = .ok (.invokevirtual 195, 3) := by decide +kernel
theorem dX7_readings_17 : decode cX7_readings 17 = .ok (.aload_n 0, 1) := by decide +kernel
theorem dX7_readings_18 : decode cX7_readings 18 = .ok (.getfield 21, 3) := by decide +kernel
theorem dX7_readings_21 : decode cX7_readings 21 = .ok (.iconst 0, 1) := by decide +kernel
theorem dX7_readings_22 : decode cX7_readings 22 = .ok (.laload, 1) := by decide +kernel
theorem dX7_readings_23 : decode cX7_readings 23 = .ok (.lstore_n 2, 1) := by decide +kernel
theorem dX7_readings_24 : decode cX7_readings 24 = .ok (.aload_n 0, 1) := by decide +kernel
theorem dX7_readings_25 : decode cX7_readings 25 = .ok (.getfield 21, 3) := by decide +kernel
theorem dX7_readings_28 : decode cX7_readings 28 = .ok (.iconst 1, 1) := by decide +kernel
theorem dX7_readings_29 : decode cX7_readings 29 = .ok (.laload, 1) := by decide +kernel
theorem dX7_readings_30 : decode cX7_readings 30 = .ok (.lstore 4, 2) := by decide +kernel
theorem dX7_readings_32 : decode cX7_readings 32 = .ok (.aload_n 0, 1) := by decide +kernel
theorem dX7_readings_33 : decode cX7_readings 33 = .ok (.getfield 21, 3) := by decide +kernel
theorem dX7_readings_36 : decode cX7_readings 36 = .ok (.iconst 0, 1) := by decide +kernel
theorem dX7_readings_37 : decode cX7_readings 37 = .ok (.lload_n 2, 1) := by decide +kernel
theorem dX7_readings_38 : decode cX7_readings 38 = .ok (.lload 4, 2) := by decide +kernel
theorem dX7_readings_40 : decode cX7_readings 40 = .ok (.ladd, 1) := by decide +kernel
theorem dX7_readings_41 : decode cX7_readings 41 = .ok (.lastore, 1) := by decide +kernel
theorem dX7_readings_42 : decode cX7_readings 42 = .ok (.aload_n 0, 1) := by decide +kernel
theorem dX7_readings_43 : decode cX7_readings 43 = .ok (.getfield 21, 3) := by decide +kernel
theorem dX7_readings_46 : decode cX7_readings 46 = .ok (.iconst 1, 1) := by decide +kernel
theorem dX7_readings_47 : decode cX7_readings 47 = .ok (.lload_n 2, 1) := by decide +kernel
theorem dX7_readings_48 : decode cX7_readings 48 = .ok (.aload_n 0, 1) := by decide +kernel
theorem dX7_readings_49 : decode cX7_readings 49 = .ok (.getfield 21, 3) := by decide +kernel
theorem dX7_readings_52 : decode cX7_readings 52 = .ok (.iconst 2, 1) := by decide +kernel
theorem dX7_readings_53 : decode cX7_readings 53 = .ok (.laload, 1) := by decide +kernel
theorem dX7_readings_54 : decode cX7_readings 54 = .ok (.ladd, 1) := by decide +kernel
theorem dX7_readings_55 : decode cX7_readings 55 = .ok (.lastore, 1) := by decide +kernel
theorem dX7_readings_56 : decode cX7_readings 56 = .ok (.aload_n 0, 1) := by decide +kernel
theorem dX7_readings_57 : decode cX7_readings 57 = .ok (.getfield 21, 3) := by decide +kernel
theorem dX7_readings_60 : decode cX7_readings 60 = .ok (.iconst 2, 1) := by decide +kernel
theorem dX7_readings_61 : decode cX7_readings 61 = .ok (.lload_n 2, 1) := by decide +kernel
theorem dX7_readings_62 : decode cX7_readings 62 = .ok (.lload 4, 2) := by decide +kernel
theorem dX7_readings_64 : decode cX7_readings 64 = .ok (.lsub, 1) := by decide +kernel
theorem dX7_readings_65 : decode cX7_readings 65 = .ok (.lastore, 1) := by decide +kernel
theorem dX7_readings_66 : decode cX7_readings 66 = .ok (.aload_n 0, 1) := by decide +kernel
theorem dX7_readings_67 : decode cX7_readings 67 = .ok (.getfield 21, 3) := by decide +kernel
theorem dX7_readings_70 : decode cX7_readings 70 = .ok (.iconst 3, 1) := by decide +kernel
theorem dX7_readings_71 : decode cX7_readings 71 = .ok (.dup2, 1) := by decide +kernel
theorem dX7_readings_72 : decode cX7_readings 72 = .ok (.laload, 1) := by decide +kernel
theorem dX7_readings_73 : decode cX7_readings 73 = .ok (.lload_n 2, 1) := by decide +kernel
theorem dX7_readings_74 : decode cX7_readings 74 = .ok (.ladd, 1) := by decide +kernel
theorem dX7_readings_75 : decode cX7_readings 75 = .ok (.lastore, 1) := by decide +kernel
theorem dX7_readings_76 : decode cX7_readings 76 = .ok (.aload_n 0, 1) := by decide +kernel
theorem dX7_readings_77 : decode cX7_readings 77 = .ok (.getfield 21, 3) := by decide +kernel
theorem dX7_readings_80 : decode cX7_readings 80 = .ok (.iconst 4, 1) := by decide +kernel
theorem dX7_readings_81 : decode cX7_readings 81 = .ok (.dup2, 1) := by decide +kernel
theorem dX7_readings_82 : decode cX7_readings 82 = .ok (.laload, 1) := by decide +kernel
theorem dX7_readings_83 : decode cX7_readings 83 = .ok (.lconst 1, 1) := by decide +kernel
theorem dX7_readings_84 : decode cX7_readings 84 = .ok (.ladd, 1) := by decide +kernel
theorem dX7_readings_85 : decode cX7_readings 85 = .ok (.lastore, 1) := by decide +kernel
theorem dX7_readings_86 : decode cX7_readings 86 = .ok (.aload_n 0, 1) := by decide +kernel
theorem dX7_readings_87 : decode cX7_readings 87 = .ok (.iload_n 1, 1) := by decide +kernel
theorem dX7_readings_88 : decode cX7_readings 88 = .ok (.invokevirtual 274, 3) := by decide +kernel
theorem dX7_readings_91 : decode cX7_readings 91 = .ok (.ireturn, 1) := by decide +kernel
theorem dX7_hasFive_0 : decode cX7_hasFive 0 = .ok (.iload_n 1, 1) := by decide +kernel
theorem dX7_hasFive_1 : decode cX7_hasFive 1 = .ok (.invokestatic 268, 3) := by decide +kernel
theorem dX7_hasFive_4 : decode cX7_hasFive 4 = .ok (.ifCond .eq 17, 3) := by decide +kernel
theorem dX7_hasFive_7 : decode cX7_hasFive 7 = .ok (.aload_n 0, 1) := by decide +kernel
theorem dX7_hasFive_8 : decode cX7_hasFive 8 = .ok (.getfield 45, 3) := by decide +kernel
theorem dX7_hasFive_11 : decode cX7_hasFive 11 = .ok (.iload_n 1, 1) := by decide +kernel
theorem dX7_hasFive_12 : decode cX7_hasFive 12 = .ok (.iaload, 1) := by decide +kernel
theorem dX7_hasFive_13 : decode cX7_hasFive 13 = .ok (.iconst 5, 1) := by decide +kernel
theorem dX7_hasFive_14 : decode cX7_hasFive 14 = .ok (.if_icmp .lt 7, 3) := by decide +kernel
theorem dX7_hasFive_17 : decode cX7_hasFive 17 = .ok (.iconst 1, 1) := by decide +kernel
theorem dX7_hasFive_18 : decode cX7_hasFive 18 = .ok (.goto 4, 3) := by decide +kernel
theorem dX7_hasFive_21 : decode cX7_hasFive 21 = .ok (.iconst 0, 1) := by decide +kernel
theorem dX7_hasFive_22 : decode cX7_hasFive 22 = .ok (.ireturn, 1) := by decide +kernel
theorem dX7_refound_0 : decode cX7_refound 0 = .ok (.aload_n 0, 1) := by decide +kernel
theorem dX7_refound_1 : decode cX7_refound 1 = .ok (.iload_n 1, 1) := by decide +kernel
theorem dX7_refound_2 : decode cX7_refound 2 = .ok (.invokevirtual 277, 3) := by decide +kernel
theorem dX7_refound_5 : decode cX7_refound 5 = .ok (.ifCond .eq 15, 3) := by decide +kernel
theorem dX7_refound_8 : decode cX7_refound 8 = .ok (.iload_n 2, 1) := by decide +kernel
theorem dX7_refound_9 : decode cX7_refound 9 = .ok (.i2l, 1) := by decide +kernel
theorem dX7_refound_10 : decode cX7_refound 10 = .ok (.lconst 0, 1) := by decide +kernel
theorem dX7_refound_11 : decode cX7_refound 11 = .ok (.ldc2_w 119, 3) := by decide +kernel
theorem dX7_refound_14 : decode cX7_refound 14 = .ok (.invokestatic 95, 3) := by decide +kernel
theorem dX7_refound_17 : decode cX7_refound 17 = .ok (.ifCond .ne 7, 3) := by decide +kernel
theorem dX7_refound_20 : decode cX7_refound 20 = .ok (.ldc2_w 193, 3) := by decide +kernel
theorem dX7_refound_23 : decode cX7_refound 23 = .ok (.lreturn, 1) := by decide +kernel
theorem dX7_refound_24 : decode cX7_refound 24 = .ok (.bipush 12, 2) := by decide +kernel
theorem dX7_refound_26 : decode cX7_refound 26 = .ok (.iload_n 1, 1) := by decide +kernel
theorem dX7_refound_27 : decode cX7_refound 27 = .ok (.imul, 1) := by decide +kernel
theorem dX7_refound_28 : decode cX7_refound 28 = .ok (.istore_n 3, 1) := by decide +kernel
theorem dX7_refound_29 : decode cX7_refound 29 = .ok (.iconst 0, 1) := by decide +kernel
theorem dX7_refound_30 : decode cX7_refound 30 = .ok (.istore 4, 2) := by decide +kernel
theorem dX7_refound_32 : decode cX7_refound 32 = .ok (.iload 4, 2) := by decide +kernel
theorem dX7_refound_34 : decode cX7_refound 34 = .ok (.iconst 4, 1) := by decide +kernel
theorem dX7_refound_35 : decode cX7_refound 35 = .ok (.if_icmp .ge 32, 3) := by decide +kernel
theorem dX7_refound_38 : decode cX7_refound 38 = .ok (.aload_n 0, 1) := by decide +kernel
theorem dX7_refound_39 : decode cX7_refound 39 = .ok (.getfield 42, 3) := by decide +kernel
theorem dX7_refound_42 : decode cX7_refound 42 = .ok (.iload_n 3, 1) := by decide +kernel
theorem dX7_refound_43 : decode cX7_refound 43 = .ok (.iload 4, 2) := by decide +kernel
theorem dX7_refound_45 : decode cX7_refound 45 = .ok (.iadd, 1) := by decide +kernel
theorem dX7_refound_46 : decode cX7_refound 46 = .ok (.laload, 1) := by decide +kernel
theorem dX7_refound_47 : decode cX7_refound 47 = .ok (.lconst 0, 1) := by decide +kernel
theorem dX7_refound_48 : decode cX7_refound 48 = .ok (.ldc2_w 280, 3) := by decide +kernel
theorem dX7_refound_51 : decode cX7_refound 51 = .ok (.invokestatic 95, 3) := by decide +kernel
theorem dX7_refound_54 : decode cX7_refound 54 = .ok (.ifCond .ne 7, 3) := by decide +kernel
theorem dX7_refound_57 : decode cX7_refound 57 = .ok (.ldc2_w 193, 3) := by decide +kernel
theorem dX7_refound_60 : decode cX7_refound 60 = .ok (.lreturn, 1) := by decide +kernel
theorem dX7_refound_61 : decode cX7_refound 61 = .ok (.iinc 4 1, 3) := by decide +kernel
theorem dX7_refound_64 : decode cX7_refound 64 = .ok (.goto (-32), 3) := by decide +kernel
theorem dX7_refound_67 : decode cX7_refound 67 = .ok (.aload_n 0, 1) := by decide +kernel
theorem dX7_refound_68 : decode cX7_refound 68 = .ok (.getfield 42, 3) := by decide +kernel
theorem dX7_refound_71 : decode cX7_refound 71 = .ok (.iload_n 3, 1) := by decide +kernel
theorem dX7_refound_72 : decode cX7_refound 72 = .ok (.iconst 4, 1) := by decide +kernel
theorem dX7_refound_73 : decode cX7_refound 73 = .ok (.iadd, 1) := by decide +kernel
theorem dX7_refound_74 : decode cX7_refound 74 = .ok (.laload, 1) := by decide +kernel
theorem dX7_refound_75 : decode cX7_refound 75 = .ok (.lconst 1, 1) := by decide +kernel
theorem dX7_refound_76 : decode cX7_refound 76 = .ok (.ldc2_w 282, 3) := by decide +kernel
theorem dX7_refound_79 : decode cX7_refound 79 = .ok (.invokestatic 95, 3) := by decide +kernel
theorem dX7_refound_82 : decode cX7_refound 82 = .ok (.ifCond .ne 7, 3) := by decide +kernel
theorem dX7_refound_85 : decode cX7_refound 85 = .ok (.ldc2_w 193, 3) := by decide +kernel
theorem dX7_refound_88 : decode cX7_refound 88 = .ok (.lreturn, 1) := by decide +kernel
theorem dX7_refound_89 : decode cX7_refound 89 = .ok (.aload_n 0, 1) := by decide +kernel
theorem dX7_refound_90 : decode cX7_refound 90 = .ok (.getfield 21, 3) := by decide +kernel
theorem dX7_refound_93 : decode cX7_refound 93 = .ok (.iconst 0, 1) := by decide +kernel
theorem dX7_refound_94 : decode cX7_refound 94 = .ok (.aload_n 0, 1) := by decide +kernel
theorem dX7_refound_95 : decode cX7_refound 95 = .ok (.getfield 42, 3) := by decide +kernel
theorem dX7_refound_98 : decode cX7_refound 98 = .ok (.iload_n 3, 1) := by decide +kernel
theorem dX7_refound_99 : decode cX7_refound 99 = .ok (.laload, 1) := by decide +kernel
theorem dX7_refound_100 : decode cX7_refound 100 = .ok (.aload_n 0, 1) := by decide +kernel
theorem dX7_refound_101 : decode cX7_refound 101 = .ok (.getfield 42, 3) := by decide +kernel
theorem dX7_refound_104 : decode cX7_refound 104 = .ok (.iload_n 3, 1) := by decide +kernel
theorem dX7_refound_105 : decode cX7_refound 105 = .ok (.iconst 2, 1) := by decide +kernel
theorem dX7_refound_106 : decode cX7_refound 106 = .ok (.iadd, 1) := by decide +kernel
theorem dX7_refound_107 : decode cX7_refound 107 = .ok (.laload, 1) := by decide +kernel
theorem dX7_refound_108 : decode cX7_refound 108 = .ok (.ladd, 1) := by decide +kernel
theorem dX7_refound_109 : decode cX7_refound 109 = .ok (.lastore, 1) := by decide +kernel
theorem dX7_refound_110 : decode cX7_refound 110 = .ok (.aload_n 0, 1) := by decide +kernel
theorem dX7_refound_111 : decode cX7_refound 111 = .ok (.getfield 21, 3) := by decide +kernel
theorem dX7_refound_114 : decode cX7_refound 114 = .ok (.iconst 1, 1) := by decide +kernel
theorem dX7_refound_115 : decode cX7_refound 115 = .ok (.aload_n 0, 1) := by decide +kernel
theorem dX7_refound_116 : decode cX7_refound 116 = .ok (.getfield 42, 3) := by decide +kernel
theorem dX7_refound_119 : decode cX7_refound 119 = .ok (.iload_n 3, 1) := by decide +kernel
theorem dX7_refound_120 : decode cX7_refound 120 = .ok (.laload, 1) := by decide +kernel
theorem dX7_refound_121 : decode cX7_refound 121 = .ok (.aload_n 0, 1) := by decide +kernel
theorem dX7_refound_122 : decode cX7_refound 122 = .ok (.getfield 42, 3) := by decide +kernel
theorem dX7_refound_125 : decode cX7_refound 125 = .ok (.iload_n 3, 1) := by decide +kernel
theorem dX7_refound_126 : decode cX7_refound 126 = .ok (.iconst 2, 1) := by decide +kernel
theorem dX7_refound_127 : decode cX7_refound 127 = .ok (.iadd, 1) := by decide +kernel
theorem dX7_refound_128 : decode cX7_refound 128 = .ok (.laload, 1) := by decide +kernel
theorem dX7_refound_129 : decode cX7_refound 129 = .ok (.lsub, 1) := by decide +kernel
theorem dX7_refound_130 : decode cX7_refound 130 = .ok (.lastore, 1) := by decide +kernel
theorem dX7_refound_131 : decode cX7_refound 131 = .ok (.aload_n 0, 1) := by decide +kernel
theorem dX7_refound_132 : decode cX7_refound 132 = .ok (.getfield 21, 3) := by decide +kernel
theorem dX7_refound_135 : decode cX7_refound 135 = .ok (.iconst 2, 1) := by decide +kernel
theorem dX7_refound_136 : decode cX7_refound 136 = .ok (.ldc2_w 99, 3) := by decide +kernel
theorem dX7_refound_139 : decode cX7_refound 139 = .ok (.aload_n 0, 1) := by decide +kernel
theorem dX7_refound_140 : decode cX7_refound 140 = .ok (.getfield 42, 3) := by decide +kernel
theorem dX7_refound_143 : decode cX7_refound 143 = .ok (.iload_n 3, 1) := by decide +kernel
theorem dX7_refound_144 : decode cX7_refound 144 = .ok (.iconst 1, 1) := by decide +kernel
theorem dX7_refound_145 : decode cX7_refound 145 = .ok (.iadd, 1) := by decide +kernel
theorem dX7_refound_146 : decode cX7_refound 146 = .ok (.laload, 1) := by decide +kernel
theorem dX7_refound_147 : decode cX7_refound 147 = .ok (.lmul, 1) := by decide +kernel
theorem dX7_refound_148 : decode cX7_refound 148 = .ok (.aload_n 0, 1) := by decide +kernel
theorem dX7_refound_149 : decode cX7_refound 149 = .ok (.getfield 21, 3) := by decide +kernel
theorem dX7_refound_152 : decode cX7_refound 152 = .ok (.iconst 0, 1) := by decide +kernel
theorem dX7_refound_153 : decode cX7_refound 153 = .ok (.laload, 1) := by decide +kernel
theorem dX7_refound_154 : decode cX7_refound 154 = .ok (.lsub, 1) := by decide +kernel
theorem dX7_refound_155 : decode cX7_refound 155 = .ok (.lastore, 1) := by decide +kernel
theorem dX7_refound_156 : decode cX7_refound 156 = .ok (.aload_n 0, 1) := by decide +kernel
theorem dX7_refound_157 : decode cX7_refound 157 = .ok (.getfield 21, 3) := by decide +kernel
theorem dX7_refound_160 : decode cX7_refound 160 = .ok (.iconst 3, 1) := by decide +kernel
theorem dX7_refound_161 : decode cX7_refound 161 = .ok (.ldc2_w 99, 3) := by decide +kernel
theorem dX7_refound_164 : decode cX7_refound 164 = .ok (.aload_n 0, 1) := by decide +kernel
theorem dX7_refound_165 : decode cX7_refound 165 = .ok (.getfield 42, 3) := by decide +kernel
theorem dX7_refound_168 : decode cX7_refound 168 = .ok (.iload_n 3, 1) := by decide +kernel
theorem dX7_refound_169 : decode cX7_refound 169 = .ok (.iconst 3, 1) := by decide +kernel
theorem dX7_refound_170 : decode cX7_refound 170 = .ok (.iadd, 1) := by decide +kernel
theorem dX7_refound_171 : decode cX7_refound 171 = .ok (.laload, 1) := by decide +kernel
theorem dX7_refound_172 : decode cX7_refound 172 = .ok (.lmul, 1) := by decide +kernel
theorem dX7_refound_173 : decode cX7_refound 173 = .ok (.aload_n 0, 1) := by decide +kernel
theorem dX7_refound_174 : decode cX7_refound 174 = .ok (.getfield 21, 3) := by decide +kernel
theorem dX7_refound_177 : decode cX7_refound 177 = .ok (.iconst 0, 1) := by decide +kernel
theorem dX7_refound_178 : decode cX7_refound 178 = .ok (.laload, 1) := by decide +kernel
theorem dX7_refound_179 : decode cX7_refound 179 = .ok (.lsub, 1) := by decide +kernel
theorem dX7_refound_180 : decode cX7_refound 180 = .ok (.lastore, 1) := by decide +kernel
theorem dX7_refound_181 : decode cX7_refound 181 = .ok (.aload_n 0, 1) := by decide +kernel
theorem dX7_refound_182 : decode cX7_refound 182 = .ok (.getfield 21, 3) := by decide +kernel
theorem dX7_refound_185 : decode cX7_refound 185 = .ok (.iconst 4, 1) := by decide +kernel
theorem dX7_refound_186 : decode cX7_refound 186 = .ok (.aload_n 0, 1) := by decide +kernel
theorem dX7_refound_187 : decode cX7_refound 187 = .ok (.getfield 42, 3) := by decide +kernel
theorem dX7_refound_190 : decode cX7_refound 190 = .ok (.iload_n 3, 1) := by decide +kernel
theorem dX7_refound_191 : decode cX7_refound 191 = .ok (.iconst 4, 1) := by decide +kernel
theorem dX7_refound_192 : decode cX7_refound 192 = .ok (.iadd, 1) := by decide +kernel
theorem dX7_refound_193 : decode cX7_refound 193 = .ok (.laload, 1) := by decide +kernel
theorem dX7_refound_194 : decode cX7_refound 194 = .ok (.lastore, 1) := by decide +kernel
theorem dX7_refound_195 : decode cX7_refound 195 = .ok (.aload_n 0, 1) := by decide +kernel
theorem dX7_refound_196 : decode cX7_refound 196 = .ok (.getfield 21, 3) := by decide +kernel
theorem dX7_refound_199 : decode cX7_refound 199 = .ok (.invokestatic 136, 3) := by decide +kernel
theorem dX7_refound_202 : decode cX7_refound 202 = .ok (.iload_n 2, 1) := by decide +kernel
theorem dX7_refound_203 : decode cX7_refound 203 = .ok (.iconst 5, 1) := by decide +kernel
theorem dX7_refound_204 : decode cX7_refound 204 = .ok (.if_icmp .ge 12, 3) := by decide +kernel
theorem dX7_refound_207 : decode cX7_refound 207 = .ok (.aload_n 0, 1) := by decide +kernel
theorem dX7_refound_208 : decode cX7_refound 208 = .ok (.getfield 21, 3) := by decide +kernel
theorem dX7_refound_211 : decode cX7_refound 211 = .ok (.iload_n 2, 1) := by decide +kernel
theorem dX7_refound_212 : decode cX7_refound 212 = .ok (.laload, 1) := by decide +kernel
theorem dX7_refound_213 : decode cX7_refound 213 = .ok (.goto 38, 3) := by decide +kernel
theorem dX7_refound_216 : decode cX7_refound 216 = .ok (.aload_n 0, 1) := by decide +kernel
theorem dX7_refound_217 : decode cX7_refound 217 = .ok (.getfield 21, 3) := by decide +kernel
theorem dX7_refound_220 : decode cX7_refound 220 = .ok (.iconst 0, 1) := by decide +kernel
theorem dX7_refound_221 : decode cX7_refound 221 = .ok (.laload, 1) := by decide +kernel
theorem dX7_refound_222 : decode cX7_refound 222 = .ok (.aload_n 0, 1) := by decide +kernel
theorem dX7_refound_223 : decode cX7_refound 223 = .ok (.getfield 21, 3) := by decide +kernel
theorem dX7_refound_226 : decode cX7_refound 226 = .ok (.iconst 1, 1) := by decide +kernel
theorem dX7_refound_227 : decode cX7_refound 227 = .ok (.laload, 1) := by decide +kernel
theorem dX7_refound_228 : decode cX7_refound 228 = .ok (.aload_n 0, 1) := by decide +kernel
theorem dX7_refound_229 : decode cX7_refound 229 = .ok (.getfield 21, 3) := by decide +kernel
theorem dX7_refound_232 : decode cX7_refound 232 = .ok (.iconst 2, 1) := by decide +kernel
theorem dX7_refound_233 : decode cX7_refound 233 = .ok (.laload, 1) := by decide +kernel
theorem dX7_refound_234 : decode cX7_refound 234 = .ok (.aload_n 0, 1) := by decide +kernel
theorem dX7_refound_235 : decode cX7_refound 235 = .ok (.getfield 21, 3) := by decide +kernel
theorem dX7_refound_238 : decode cX7_refound 238 = .ok (.iconst 3, 1) := by decide +kernel
theorem dX7_refound_239 : decode cX7_refound 239 = .ok (.laload, 1) := by decide +kernel
theorem dX7_refound_240 : decode cX7_refound 240 = .ok (.invokestatic 154, 3) := by decide +kernel
theorem dX7_refound_243 : decode cX7_refound 243 = .ok (.ifCond .eq 7, 3) := by decide +kernel
theorem dX7_refound_246 : decode cX7_refound 246 = .ok (.lconst 1, 1) := by decide +kernel
theorem dX7_refound_247 : decode cX7_refound 247 = .ok (.goto 4, 3) := by decide +kernel
theorem dX7_refound_250 : decode cX7_refound 250 = .ok (.lconst 0, 1) := by decide +kernel
theorem dX7_refound_251 : decode cX7_refound 251 = .ok (.lreturn, 1) := by decide +kernel
theorem dX7_tellsLight_0 : decode cX7_tellsLight 0 = .ok (.aload_n 0, 1) := by decide +kernel
theorem dX7_tellsLight_1 : decode cX7_tellsLight 1 = .ok (.iload_n 1, 1) := by decide +kernel
theorem dX7_tellsLight_2 : decode cX7_tellsLight 2 = .ok (.invokevirtual 277, 3) := by decide +kernel
theorem dX7_tellsLight_5 : decode cX7_tellsLight 5 = .ok (.ifCond .ne 5, 3) := by decide +kernel
theorem dX7_tellsLight_8 : decode cX7_tellsLight 8 = .ok (.iconst 0, 1) := by decide +kernel
theorem dX7_tellsLight_9 : decode cX7_tellsLight 9 = .ok (.ireturn, 1) := by decide +kernel
theorem dX7_tellsLight_10 : decode cX7_tellsLight 10 = .ok (.bipush 12, 2) := by decide +kernel
theorem dX7_tellsLight_12 : decode cX7_tellsLight 12 = .ok (.iload_n 1, 1) := by decide +kernel
theorem dX7_tellsLight_13 : decode cX7_tellsLight 13 = .ok (.imul, 1) := by decide +kernel
theorem dX7_tellsLight_14 : decode cX7_tellsLight 14 = .ok (.istore_n 2, 1) := by decide +kernel
theorem dX7_tellsLight_15 : decode cX7_tellsLight 15 = .ok (.aload_n 0, 1) := by decide +kernel
theorem dX7_tellsLight_16 : decode cX7_tellsLight 16 = .ok (.getfield 42, 3) := by decide +kernel
theorem dX7_tellsLight_19 : decode cX7_tellsLight 19 = .ok (.iload_n 2, 1) := by decide +kernel
theorem dX7_tellsLight_20 : decode cX7_tellsLight 20 = .ok (.laload, 1) := by decide +kernel
theorem dX7_tellsLight_21 : decode cX7_tellsLight 21 = .ok (.lconst 0, 1) := by decide +kernel
theorem dX7_tellsLight_22 : decode cX7_tellsLight 22 = .ok (.ldc2_w 280, 3) := by decide +kernel
theorem dX7_tellsLight_25 : decode cX7_tellsLight 25 = .ok (.invokestatic 95, 3) := by decide +kernel
theorem dX7_tellsLight_28 : decode cX7_tellsLight 28 = .ok (.ifCond .eq 57, 3) := by decide +kernel
theorem dX7_tellsLight_31 : decode cX7_tellsLight 31 = .ok (.aload_n 0, 1) := by decide +kernel
theorem dX7_tellsLight_32 : decode cX7_tellsLight 32 = .ok (.getfield 42, 3) := by decide +kernel
theorem dX7_tellsLight_35 : decode cX7_tellsLight 35 = .ok (.iload_n 2, 1) := by decide +kernel
theorem dX7_tellsLight_36 : decode cX7_tellsLight 36 = .ok (.iconst 4, 1) := by decide +kernel
theorem dX7_tellsLight_37 : decode cX7_tellsLight 37 = .ok (.iadd, 1) := by decide +kernel
theorem dX7_tellsLight_38 : decode cX7_tellsLight 38 = .ok (.laload, 1) := by decide +kernel
theorem dX7_tellsLight_39 : decode cX7_tellsLight 39 = .ok (.lconst 0, 1) := by decide +kernel
theorem dX7_tellsLight_40 : decode cX7_tellsLight 40 = .ok (.ldc2_w 282, 3) := by decide +kernel
theorem dX7_tellsLight_43 : decode cX7_tellsLight 43 = .ok (.invokestatic 95, 3) := by decide +kernel
theorem dX7_tellsLight_46 : decode cX7_tellsLight 46 = .ok (.ifCond .eq 39, 3) := by decide +kernel
theorem dX7_tellsLight_49 : decode cX7_tellsLight 49 = .ok (.aload_n 0, 1) := by decide +kernel
theorem dX7_tellsLight_50 : decode cX7_tellsLight 50 = .ok (.getfield 42, 3) := by decide +kernel
theorem dX7_tellsLight_53 : decode cX7_tellsLight 53 = .ok (.iload_n 2, 1) := by decide +kernel
theorem dX7_tellsLight_54 : decode cX7_tellsLight 54 = .ok (.laload, 1) := by decide +kernel
theorem dX7_tellsLight_55 : decode cX7_tellsLight 55 = .ok (.aload_n 0, 1) := by decide +kernel
theorem dX7_tellsLight_56 : decode cX7_tellsLight 56 = .ok (.getfield 42, 3) := by decide +kernel
theorem dX7_tellsLight_59 : decode cX7_tellsLight 59 = .ok (.iload_n 2, 1) := by decide +kernel
theorem dX7_tellsLight_60 : decode cX7_tellsLight 60 = .ok (.iconst 1, 1) := by decide +kernel
theorem dX7_tellsLight_61 : decode cX7_tellsLight 61 = .ok (.iadd, 1) := by decide +kernel
theorem dX7_tellsLight_62 : decode cX7_tellsLight 62 = .ok (.laload, 1) := by decide +kernel
theorem dX7_tellsLight_63 : decode cX7_tellsLight 63 = .ok (.aload_n 0, 1) := by decide +kernel
theorem dX7_tellsLight_64 : decode cX7_tellsLight 64 = .ok (.getfield 42, 3) := by decide +kernel
theorem dX7_tellsLight_67 : decode cX7_tellsLight 67 = .ok (.iload_n 2, 1) := by decide +kernel
theorem dX7_tellsLight_68 : decode cX7_tellsLight 68 = .ok (.iconst 2, 1) := by decide +kernel
theorem dX7_tellsLight_69 : decode cX7_tellsLight 69 = .ok (.iadd, 1) := by decide +kernel
theorem dX7_tellsLight_70 : decode cX7_tellsLight 70 = .ok (.laload, 1) := by decide +kernel
theorem dX7_tellsLight_71 : decode cX7_tellsLight 71 = .ok (.aload_n 0, 1) := by decide +kernel
theorem dX7_tellsLight_72 : decode cX7_tellsLight 72 = .ok (.getfield 42, 3) := by decide +kernel
theorem dX7_tellsLight_75 : decode cX7_tellsLight 75 = .ok (.iload_n 2, 1) := by decide +kernel
theorem dX7_tellsLight_76 : decode cX7_tellsLight 76 = .ok (.iconst 3, 1) := by decide +kernel
theorem dX7_tellsLight_77 : decode cX7_tellsLight 77 = .ok (.iadd, 1) := by decide +kernel
theorem dX7_tellsLight_78 : decode cX7_tellsLight 78 = .ok (.laload, 1) := by decide +kernel
theorem dX7_tellsLight_79 : decode cX7_tellsLight 79 = .ok (.invokestatic 154, 3) := by decide +kernel
theorem dX7_tellsLight_82 : decode cX7_tellsLight 82 = .ok (.ifCond .ne 5, 3) := by decide +kernel
theorem dX7_tellsLight_85 : decode cX7_tellsLight 85 = .ok (.iconst 0, 1) := by decide +kernel
theorem dX7_tellsLight_86 : decode cX7_tellsLight 86 = .ok (.ireturn, 1) := by decide +kernel
theorem dX7_tellsLight_87 : decode cX7_tellsLight 87 = .ok (.aload_n 0, 1) := by decide +kernel
theorem dX7_tellsLight_88 : decode cX7_tellsLight 88 = .ok (.getfield 42, 3) := by decide +kernel
theorem dX7_tellsLight_91 : decode cX7_tellsLight 91 = .ok (.iload_n 2, 1) := by decide +kernel
theorem dX7_tellsLight_92 : decode cX7_tellsLight 92 = .ok (.aload_n 0, 1) := by decide +kernel
theorem dX7_tellsLight_93 : decode cX7_tellsLight 93 = .ok (.getfield 21, 3) := by decide +kernel
theorem dX7_tellsLight_96 : decode cX7_tellsLight 96 = .ok (.iconst 0, 1) := by decide +kernel
theorem dX7_tellsLight_97 : decode cX7_tellsLight 97 = .ok (.iconst 5, 1) := by decide +kernel
theorem dX7_tellsLight_98 : decode cX7_tellsLight 98 = .ok (.invokestatic 140, 3) := by decide +kernel
theorem dX7_tellsLight_101 : decode cX7_tellsLight 101 = .ok (.aload_n 0, 1) := by decide +kernel
theorem dX7_tellsLight_102 : decode cX7_tellsLight 102 = .ok (.getfield 21, 3) := by decide +kernel
theorem dX7_tellsLight_105 : decode cX7_tellsLight 105 = .ok (.invokestatic 136, 3) := by decide +kernel
theorem dX7_tellsLight_108 : decode cX7_tellsLight 108 = .ok (.iconst 1, 1) := by decide +kernel
theorem dX7_tellsLight_109 : decode cX7_tellsLight 109 = .ok (.ireturn, 1) := by decide +kernel
theorem dX7_through_0 : decode cX7_through 0 = .ok (.iload_n 2, 1) := by decide +kernel
theorem dX7_through_1 : decode cX7_through 1 = .ok (.i2l, 1) := by decide +kernel
theorem dX7_through_2 : decode cX7_through 2 = .ok (.lconst 0, 1) := by decide +kernel
theorem dX7_through_3 : decode cX7_through 3 = .ok (.ldc2_w 191, 3) := by decide +kernel
theorem dX7_through_6 : decode cX7_through 6 = .ok (.invokestatic 95, 3) := by decide +kernel
theorem dX7_through_9 : decode cX7_through 9 = .ok (.ifCond .eq 11, 3) := by decide +kernel
theorem dX7_through_12 : decode cX7_through 12 = .ok (.aload_n 0, 1) := by decide +kernel
theorem dX7_through_13 : decode cX7_through 13 = .ok (.iload_n 1, 1) := by decide +kernel
theorem dX7_through_14 : decode cX7_through 14 = .ok (.invokevirtual 284, 3) := by decide +kernel
theorem dX7_through_17 : decode cX7_through 17 = .ok (.ifCond .ne 7, 3) := by decide +kernel
theorem dX7_through_20 : decode cX7_through 20 = .ok (.ldc2_w 193, 3) := by decide +kernel
theorem dX7_through_23 : decode cX7_through 23 = .ok (.lreturn, 1) := by decide +kernel
theorem dX7_through_24 : decode cX7_through 24 = .ok (.iconst 0, 1) := by decide +kernel
theorem dX7_through_25 : decode cX7_through 25 = .ok (.istore_n 3, 1) := by decide +kernel
theorem dX7_through_26 : decode cX7_through 26 = .ok (.iload_n 3, 1) := by decide +kernel
theorem dX7_through_27 : decode cX7_through 27 = .ok (.aload_n 0, 1) := by decide +kernel
theorem dX7_through_28 : decode cX7_through 28 = .ok (.getfield 91, 3) := by decide +kernel
theorem dX7_through_31 : decode cX7_through 31 = .ok (.if_icmp .ge 22, 3) := by decide +kernel
theorem dX7_through_34 : decode cX7_through 34 = .ok (.aload_n 0, 1) := by decide +kernel
theorem dX7_through_35 : decode cX7_through 35 = .ok (.getfield 21, 3) := by decide +kernel
theorem dX7_through_38 : decode cX7_through 38 = .ok (.aload_n 0, 1) := by decide +kernel
theorem dX7_through_39 : decode cX7_through 39 = .ok (.getfield 17, 3) := by decide +kernel
theorem dX7_through_42 : decode cX7_through 42 = .ok (.iload_n 3, 1) := by decide +kernel
theorem dX7_through_43 : decode cX7_through 43 = .ok (.iaload, 1) := by decide +kernel
theorem dX7_through_44 : decode cX7_through 44 = .ok (.invokestatic 149, 3) := by decide +kernel
theorem dX7_through_47 : decode cX7_through 47 = .ok (.iinc 3 1, 3) := by decide +kernel
theorem dX7_through_50 : decode cX7_through 50 = .ok (.goto (-24), 3) := by decide +kernel
theorem dX7_through_53 : decode cX7_through 53 = .ok (.aload_n 0, 1) := by decide +kernel
theorem dX7_through_54 : decode cX7_through 54 = .ok (.getfield 21, 3) := by decide +kernel
theorem dX7_through_57 : decode cX7_through 57 = .ok (.iload_n 2, 1) := by decide +kernel
theorem dX7_through_58 : decode cX7_through 58 = .ok (.laload, 1) := by decide +kernel
theorem dX7_through_59 : decode cX7_through 59 = .ok (.lreturn, 1) := by decide +kernel
theorem dX7_before_0 : decode cX7_before 0 = .ok (.iload_n 2, 1) := by decide +kernel
theorem dX7_before_1 : decode cX7_before 1 = .ok (.i2l, 1) := by decide +kernel
theorem dX7_before_2 : decode cX7_before 2 = .ok (.lconst 0, 1) := by decide +kernel
theorem dX7_before_3 : decode cX7_before 3 = .ok (.ldc2_w 191, 3) := by decide +kernel
theorem dX7_before_6 : decode cX7_before 6 = .ok (.invokestatic 95, 3) := by decide +kernel
theorem dX7_before_9 : decode cX7_before 9 = .ok (.ifCond .eq 11, 3) := by decide +kernel
theorem dX7_before_12 : decode cX7_before 12 = .ok (.aload_n 0, 1) := by decide +kernel
theorem dX7_before_13 : decode cX7_before 13 = .ok (.iload_n 1, 1) := by decide +kernel
theorem dX7_before_14 : decode cX7_before 14 = .ok (.invokevirtual 284, 3) := by decide +kernel
theorem dX7_before_17 : decode cX7_before 17 = .ok (.ifCond .ne 7, 3) := by decide +kernel
theorem dX7_before_20 : decode cX7_before 20 = .ok (.ldc2_w 193, 3) := by decide +kernel
theorem dX7_before_23 : decode cX7_before 23 = .ok (.lreturn, 1) := by decide +kernel
theorem dX7_before_24 : decode cX7_before 24 = .ok (.aload_n 0, 1) := by decide +kernel
theorem dX7_before_25 : decode cX7_before 25 = .ok (.getfield 91, 3) := by decide +kernel
theorem dX7_before_28 : decode cX7_before 28 = .ok (.iconst 1, 1) := by decide +kernel
theorem dX7_before_29 : decode cX7_before 29 = .ok (.isub, 1) := by decide +kernel
theorem dX7_before_30 : decode cX7_before 30 = .ok (.istore_n 3, 1) := by decide +kernel
theorem dX7_before_31 : decode cX7_before 31 = .ok (.iload_n 3, 1) := by decide +kernel
theorem dX7_before_32 : decode cX7_before 32 = .ok (.ifCond .lt 78, 3) := by decide +kernel
theorem dX7_before_35 : decode cX7_before 35 = .ok (.aload_n 0, 1) := by decide +kernel
theorem dX7_before_36 : decode cX7_before 36 = .ok (.getfield 17, 3) := by decide +kernel
theorem dX7_before_39 : decode cX7_before 39 = .ok (.iload_n 3, 1) := by decide +kernel
theorem dX7_before_40 : decode cX7_before 40 = .ok (.iaload, 1) := by decide +kernel
theorem dX7_before_41 : decode cX7_before 41 = .ok (.invokestatic 101, 3) := by decide +kernel
theorem dX7_before_44 : decode cX7_before 44 = .ok (.istore 4, 2) := by decide +kernel
theorem dX7_before_46 : decode cX7_before 46 = .ok (.iload 4, 2) := by decide +kernel
theorem dX7_before_48 : decode cX7_before 48 = .ok (.ifCond .eq 19, 3) := by decide +kernel
theorem dX7_before_51 : decode cX7_before 51 = .ok (.iload 4, 2) := by decide +kernel
theorem dX7_before_53 : decode cX7_before 53 = .ok (.iconst 4, 1) := by decide +kernel
theorem dX7_before_54 : decode cX7_before 54 = .ok (.if_icmp .eq 13, 3) := by decide +kernel
theorem dX7_before_57 : decode cX7_before 57 = .ok (.iload 4, 2) := by decide +kernel
theorem dX7_before_59 : decode cX7_before 59 = .ok (.iconst 5, 1) := by decide +kernel
theorem dX7_before_60 : decode cX7_before 60 = .ok (.if_icmp .eq 7, 3) := by decide +kernel
theorem dX7_before_63 : decode cX7_before 63 = .ok (.ldc2_w 193, 3) := by decide +kernel
theorem dX7_before_66 : decode cX7_before 66 = .ok (.lreturn, 1) := by decide +kernel
theorem dX7_before_67 : decode cX7_before 67 = .ok (.aload_n 0, 1) := by decide +kernel
theorem dX7_before_68 : decode cX7_before 68 = .ok (.getfield 21, 3) := by decide +kernel
theorem dX7_before_71 : decode cX7_before 71 = .ok (.aload_n 0, 1) := by decide +kernel
theorem dX7_before_72 : decode cX7_before 72 = .ok (.getfield 17, 3) := by decide +kernel
theorem dX7_before_75 : decode cX7_before 75 = .ok (.iload_n 3, 1) := by decide +kernel
theorem dX7_before_76 : decode cX7_before 76 = .ok (.iaload, 1) := by decide +kernel
theorem dX7_before_77 : decode cX7_before 77 = .ok (.iload 4, 2) := by decide +kernel
theorem dX7_before_79 : decode cX7_before 79 = .ok (.ifCond .ne 7, 3) := by decide +kernel
theorem dX7_before_82 : decode cX7_before 82 = .ok (.iconst 0, 1) := by decide +kernel
theorem dX7_before_83 : decode cX7_before 83 = .ok (.goto 18, 3) := by decide +kernel
theorem dX7_before_86 : decode cX7_before 86 = .ok (.iconst 4, 1) := by decide +kernel
theorem dX7_before_87 : decode cX7_before 87 = .ok (.aload_n 0, 1) := by decide +kernel
theorem dX7_before_88 : decode cX7_before 88 = .ok (.getfield 17, 3) := by decide +kernel
theorem dX7_before_91 : decode cX7_before 91 = .ok (.iload_n 3, 1) := by decide +kernel
theorem dX7_before_92 : decode cX7_before 92 = .ok (.iaload, 1) := by decide +kernel
theorem dX7_before_93 : decode cX7_before 93 = .ok (.invokestatic 105, 3) := by decide +kernel
theorem dX7_before_96 : decode cX7_before 96 = .ok (.iconst 4, 1) := by decide +kernel
theorem dX7_before_97 : decode cX7_before 97 = .ok (.irem, 1) := by decide +kernel
theorem dX7_before_98 : decode cX7_before 98 = .ok (.isub, 1) := by decide +kernel
theorem dX7_before_99 : decode cX7_before 99 = .ok (.iconst 4, 1) := by decide +kernel
theorem dX7_before_100 : decode cX7_before 100 = .ok (.irem, 1) := by decide +kernel
theorem dX7_before_101 : decode cX7_before 101 = .ok (.invokestatic 132, 3) := by decide +kernel
theorem dX7_before_104 : decode cX7_before 104 = .ok (.iinc 3 (-1), 3) := by decide +kernel
theorem dX7_before_107 : decode cX7_before 107 = .ok (.goto (-76), 3) := by decide +kernel
theorem dX7_before_110 : decode cX7_before 110 = .ok (.aload_n 0, 1) := by decide +kernel
theorem dX7_before_111 : decode cX7_before 111 = .ok (.getfield 21, 3) := by decide +kernel
theorem dX7_before_114 : decode cX7_before 114 = .ok (.iload_n 2, 1) := by decide +kernel
theorem dX7_before_115 : decode cX7_before 115 = .ok (.laload, 1) := by decide +kernel
theorem dX7_before_116 : decode cX7_before 116 = .ok (.lreturn, 1) := by decide +kernel
theorem dX7_found_0 : decode cX7_found 0 = .ok (.iload_n 1, 1) := by decide +kernel
theorem dX7_found_1 : decode cX7_found 1 = .ok (.invokestatic 268, 3) := by decide +kernel
theorem dX7_found_4 : decode cX7_found 4 = .ok (.ifCond .eq 23, 3) := by decide +kernel
theorem dX7_found_7 : decode cX7_found 7 = .ok (.aload_n 0, 1) := by decide +kernel
theorem dX7_found_8 : decode cX7_found 8 = .ok (.iload_n 2, 1) := by decide +kernel
theorem dX7_found_9 : decode cX7_found 9 = .ok (.invokevirtual 169, 3) := by decide +kernel
theorem dX7_found_12 : decode cX7_found 12 = .ok (.ifCond .eq 15, 3) := by decide +kernel
theorem dX7_found_15 : decode cX7_found 15 = .ok (.iload_n 3, 1) := by decide +kernel
theorem dX7_found_16 : decode cX7_found 16 = .ok (.i2l, 1) := by decide +kernel
theorem dX7_found_17 : decode cX7_found 17 = .ok (.lconst 0, 1) := by decide +kernel
theorem dX7_found_18 : decode cX7_found 18 = .ok (.ldc2_w 99, 3) := by decide +kernel
theorem dX7_found_21 : decode cX7_found 21 = .ok (.invokestatic 95, 3) := by decide +kernel
theorem dX7_found_24 : decode cX7_found 24 = .ok (.ifCond .ne 5, 3) := by decide +kernel
theorem dX7_found_27 : decode cX7_found 27 = .ok (.iconst (-1), 1) := by decide +kernel
theorem dX7_found_28 : decode cX7_found 28 = .ok (.ireturn, 1) := by decide +kernel
theorem dX7_found_29 : decode cX7_found 29 = .ok (.aload_n 0, 1) := by decide +kernel
theorem dX7_found_30 : decode cX7_found 30 = .ok (.getfield 45, 3) := by decide +kernel
theorem dX7_found_33 : decode cX7_found 33 = .ok (.iload_n 1, 1) := by decide +kernel
theorem dX7_found_34 : decode cX7_found 34 = .ok (.iaload, 1) := by decide +kernel
theorem dX7_found_35 : decode cX7_found 35 = .ok (.iconst (-1), 1) := by decide +kernel
theorem dX7_found_36 : decode cX7_found 36 = .ok (.if_icmp .ne 6, 3) := by decide +kernel
theorem dX7_found_39 : decode cX7_found 39 = .ok (.bipush (-11), 2) := by decide +kernel
theorem dX7_found_41 : decode cX7_found 41 = .ok (.ireturn, 1) := by decide +kernel
theorem dX7_found_42 : decode cX7_found 42 = .ok (.aload_n 0, 1) := by decide +kernel
theorem dX7_found_43 : decode cX7_found 43 = .ok (.iload_n 1, 1) := by decide +kernel
theorem dX7_found_44 : decode cX7_found 44 = .ok (.invokevirtual 284, 3) := by decide +kernel
theorem dX7_found_47 : decode cX7_found 47 = .ok (.ifCond .ne 6, 3) := by decide +kernel
theorem dX7_found_50 : decode cX7_found 50 = .ok (.bipush (-2), 2) := by decide +kernel
theorem dX7_found_52 : decode cX7_found 52 = .ok (.ireturn, 1) := by decide +kernel
theorem dX7_found_53 : decode cX7_found 53 = .ok (.aload_n 0, 1) := by decide +kernel
theorem dX7_found_54 : decode cX7_found 54 = .ok (.getfield 21, 3) := by decide +kernel
theorem dX7_found_57 : decode cX7_found 57 = .ok (.iconst 0, 1) := by decide +kernel
theorem dX7_found_58 : decode cX7_found 58 = .ok (.aload_n 0, 1) := by decide +kernel
theorem dX7_found_59 : decode cX7_found 59 = .ok (.getfield 39, 3) := by decide +kernel
theorem dX7_found_62 : decode cX7_found 62 = .ok (.iconst 0, 1) := by decide +kernel
theorem dX7_found_63 : decode cX7_found 63 = .ok (.iconst 5, 1) := by decide +kernel
theorem dX7_found_64 : decode cX7_found 64 = .ok (.invokestatic 140, 3) := by decide +kernel
theorem dX7_found_67 : decode cX7_found 67 = .ok (.aload_n 0, 1) := by decide +kernel
theorem dX7_found_68 : decode cX7_found 68 = .ok (.getfield 17, 3) := by decide +kernel
theorem dX7_found_71 : decode cX7_found 71 = .ok (.iload_n 2, 1) := by decide +kernel
theorem dX7_found_72 : decode cX7_found 72 = .ok (.iaload, 1) := by decide +kernel
theorem dX7_found_73 : decode cX7_found 73 = .ok (.istore 4, 2) := by decide +kernel
theorem dX7_found_75 : decode cX7_found 75 = .ok (.iconst 0, 1) := by decide +kernel
theorem dX7_found_76 : decode cX7_found 76 = .ok (.istore 5, 2) := by decide +kernel
theorem dX7_found_78 : decode cX7_found 78 = .ok (.bipush (-5), 2) := by decide +kernel
theorem dX7_found_80 : decode cX7_found 80 = .ok (.istore 6, 2) := by decide +kernel
theorem dX7_found_82 : decode cX7_found 82 = .ok (.iconst 0, 1) := by decide +kernel
theorem dX7_found_83 : decode cX7_found 83 = .ok (.istore 7, 2) := by decide +kernel
theorem dX7_found_85 : decode cX7_found 85 = .ok (.iconst 0, 1) := by decide +kernel
theorem dX7_found_86 : decode cX7_found 86 = .ok (.istore 8, 2) := by decide +kernel
theorem dX7_found_88 : decode cX7_found 88 = .ok (.iload 8, 2) := by decide +kernel
theorem dX7_found_90 : decode cX7_found 90 = .ok (.bipush 7, 2) := by decide +kernel
theorem dX7_found_92 : decode cX7_found 92 = .ok (.if_icmp .ge 100, 3) := by decide +kernel
theorem dX7_found_95 : decode cX7_found 95 = .ok (.iconst 0, 1) := by decide +kernel
theorem dX7_found_96 : decode cX7_found 96 = .ok (.istore 9, 2) := by decide +kernel
theorem dX7_found_98 : decode cX7_found 98 = .ok (.iload 9, 2) := by decide +kernel
theorem dX7_found_100 : decode cX7_found 100 = .ok (.bipush 68, 2) := by decide +kernel
theorem dX7_found_102 : decode cX7_found 102 = .ok (.if_icmp .ge 84, 3) := by decide +kernel
theorem dX7_found_105 : decode cX7_found 105 = .ok (.aload_n 0, 1) := by decide +kernel
theorem dX7_found_106 : decode cX7_found 106 = .ok (.getfield 17, 3) := by decide +kernel
theorem dX7_found_109 : decode cX7_found 109 = .ok (.iload_n 2, 1) := by decide +kernel
theorem dX7_found_110 : decode cX7_found 110 = .ok (.iload 8, 2) := by decide +kernel
theorem dX7_found_112 : decode cX7_found 112 = .ok (.iload 9, 2) := by decide +kernel
theorem dX7_found_114 : decode cX7_found 114 = .ok (.bipush 17, 2) := by decide +kernel
theorem dX7_found_116 : decode cX7_found 116 = .ok (.idiv, 1) := by decide +kernel
theorem dX7_found_117 : decode cX7_found 117 = .ok (.iload 9, 2) := by decide +kernel
theorem dX7_found_119 : decode cX7_found 119 = .ok (.bipush 17, 2) := by decide +kernel
theorem dX7_found_121 : decode cX7_found 121 = .ok (.irem, 1) := by decide +kernel
theorem dX7_found_122 : decode cX7_found 122 = .ok (.invokestatic 162, 3) := by decide +kernel
theorem dX7_found_125 : decode cX7_found 125 = .ok (.iastore, 1) := by decide +kernel
theorem dX7_found_126 : decode cX7_found 126 = .ok (.aload_n 0, 1) := by decide +kernel
theorem dX7_found_127 : decode cX7_found 127 = .ok (.aload_n 0, 1) := by decide +kernel
theorem dX7_found_128 : decode cX7_found 128 = .ok (.getfield 91, 3) := by decide +kernel
theorem dX7_found_131 : decode cX7_found 131 = .ok (.invokevirtual 195, 3) := by decide +kernel
theorem dX7_found_134 : decode cX7_found 134 = .ok (.aload_n 0, 1) := by decide +kernel
theorem dX7_found_135 : decode cX7_found 135 = .ok (.getfield 21, 3) := by decide +kernel
theorem dX7_found_138 : decode cX7_found 138 = .ok (.iconst 0, 1) := by decide +kernel
theorem dX7_found_139 : decode cX7_found 139 = .ok (.aload_n 0, 1) := by decide +kernel
theorem dX7_found_140 : decode cX7_found 140 = .ok (.getfield 39, 3) := by decide +kernel
theorem dX7_found_143 : decode cX7_found 143 = .ok (.iconst 0, 1) := by decide +kernel
theorem dX7_found_144 : decode cX7_found 144 = .ok (.invokestatic 238, 3) := by decide +kernel
theorem dX7_found_147 : decode cX7_found 147 = .ok (.ifCond .eq 33, 3) := by decide +kernel
theorem dX7_found_150 : decode cX7_found 150 = .ok (.iload 5, 2) := by decide +kernel
theorem dX7_found_152 : decode cX7_found 152 = .ok (.ifCond .ne 12, 3) := by decide +kernel
theorem dX7_found_155 : decode cX7_found 155 = .ok (.aload_n 0, 1) := by decide +kernel
theorem dX7_found_156 : decode cX7_found 156 = .ok (.getfield 17, 3) := by decide +kernel
theorem dX7_found_159 : decode cX7_found 159 = .ok (.iload_n 2, 1) := by decide +kernel
theorem dX7_found_160 : decode cX7_found 160 = .ok (.iaload, 1) := by decide +kernel
theorem dX7_found_161 : decode cX7_found 161 = .ok (.goto 5, 3) := by decide +kernel
theorem dX7_found_164 : decode cX7_found 164 = .ok (.iload 6, 2) := by decide +kernel
theorem dX7_found_166 : decode cX7_found 166 = .ok (.istore 6, 2) := by decide +kernel
theorem dX7_found_168 : decode cX7_found 168 = .ok (.iinc 5 1, 3) := by decide +kernel
theorem dX7_found_171 : decode cX7_found 171 = .ok (.iload 7, 2) := by decide +kernel
theorem dX7_found_173 : decode cX7_found 173 = .ok (.iconst 1, 1) := by decide +kernel
theorem dX7_found_174 : decode cX7_found 174 = .ok (.iload 8, 2) := by decide +kernel
theorem dX7_found_176 : decode cX7_found 176 = .ok (.ishl, 1) := by decide +kernel
theorem dX7_found_177 : decode cX7_found 177 = .ok (.ior, 1) := by decide +kernel
theorem dX7_found_178 : decode cX7_found 178 = .ok (.istore 7, 2) := by decide +kernel
theorem dX7_found_180 : decode cX7_found 180 = .ok (.iinc 9 1, 3) := by decide +kernel
theorem dX7_found_183 : decode cX7_found 183 = .ok (.goto (-85), 3) := by decide +kernel
theorem dX7_found_186 : decode cX7_found 186 = .ok (.iinc 8 1, 3) := by decide +kernel
theorem dX7_found_189 : decode cX7_found 189 = .ok (.goto (-101), 3) := by decide +kernel
theorem dX7_found_192 : decode cX7_found 192 = .ok (.aload_n 0, 1) := by decide +kernel
theorem dX7_found_193 : decode cX7_found 193 = .ok (.getfield 17, 3) := by decide +kernel
theorem dX7_found_196 : decode cX7_found 196 = .ok (.iload_n 2, 1) := by decide +kernel
theorem dX7_found_197 : decode cX7_found 197 = .ok (.iload 4, 2) := by decide +kernel
theorem dX7_found_199 : decode cX7_found 199 = .ok (.iastore, 1) := by decide +kernel
theorem dX7_found_200 : decode cX7_found 200 = .ok (.iload_n 3, 1) := by decide +kernel
theorem dX7_found_201 : decode cX7_found 201 = .ok (.ifCond .ne 8, 3) := by decide +kernel
theorem dX7_found_204 : decode cX7_found 204 = .ok (.iload 5, 2) := by decide +kernel
theorem dX7_found_206 : decode cX7_found 206 = .ok (.goto 15, 3) := by decide +kernel
theorem dX7_found_209 : decode cX7_found 209 = .ok (.iload_n 3, 1) := by decide +kernel
theorem dX7_found_210 : decode cX7_found 210 = .ok (.iconst 1, 1) := by decide +kernel
theorem dX7_found_211 : decode cX7_found 211 = .ok (.if_icmp .ne 8, 3) := by decide +kernel
theorem dX7_found_214 : decode cX7_found 214 = .ok (.iload 6, 2) := by decide +kernel
theorem dX7_found_216 : decode cX7_found 216 = .ok (.goto 5, 3) := by decide +kernel
theorem dX7_found_219 : decode cX7_found 219 = .ok (.iload 7, 2) := by decide +kernel
theorem dX7_found_221 : decode cX7_found 221 = .ok (.ireturn, 1) := by decide +kernel
theorem dX7_meterNow_0 : decode cX7_meterNow 0 = .ok (.aload_n 0, 1) := by decide +kernel
theorem dX7_meterNow_1 : decode cX7_meterNow 1 = .ok (.getfield 21, 3) := by decide +kernel
theorem dX7_meterNow_4 : decode cX7_meterNow 4 = .ok (.iconst 0, 1) := by decide +kernel
theorem dX7_meterNow_5 : decode cX7_meterNow 5 = .ok (.laload, 1) := by decide +kernel
theorem dX7_meterNow_6 : decode cX7_meterNow 6 = .ok (.l2d, 1) := by decide +kernel
theorem dX7_meterNow_7 : decode cX7_meterNow 7 = .ok (.lconst 1, 1) := by decide +kernel
theorem dX7_meterNow_8 : decode cX7_meterNow 8 = .ok (.aload_n 0, 1) := by decide +kernel
theorem dX7_meterNow_9 : decode cX7_meterNow 9 = .ok (.getfield 21, 3) := by decide +kernel
theorem dX7_meterNow_12 : decode cX7_meterNow 12 = .ok (.iconst 4, 1) := by decide +kernel
theorem dX7_meterNow_13 : decode cX7_meterNow 13 = .ok (.laload, 1) := by decide +kernel
theorem dX7_meterNow_14 : decode cX7_meterNow 14 = .ok (.l2i, 1) := by decide +kernel
theorem dX7_meterNow_15 : decode cX7_meterNow 15 = .ok (.lshl, 1) := by decide +kernel
theorem dX7_meterNow_16 : decode cX7_meterNow 16 = .ok (.l2d, 1) := by decide +kernel
theorem dX7_meterNow_17 : decode cX7_meterNow 17 = .ok (.ddiv, 1) := by decide +kernel
theorem dX7_meterNow_18 : decode cX7_meterNow 18 = .ok (.dreturn, 1) := by decide +kernel
theorem dX7_meterAll_0 : decode cX7_meterAll 0 = .ok (.aload_n 0, 1) := by decide +kernel
theorem dX7_meterAll_1 : decode cX7_meterAll 1 = .ok (.aload_n 0, 1) := by decide +kernel
theorem dX7_meterAll_2 : decode cX7_meterAll 2 = .ok (.getfield 91, 3) := by decide +kernel
theorem dX7_meterAll_5 : decode cX7_meterAll 5 = .ok (.invokevirtual 195, 3) := by decide +kernel
theorem dX7_meterAll_8 : decode cX7_meterAll 8 = .ok (.aload_n 0, 1) := by decide +kernel
theorem dX7_meterAll_9 : decode cX7_meterAll 9 = .ok (.invokevirtual 287, 3) := by decide +kernel
theorem dX7_meterAll_12 : decode cX7_meterAll 12 = .ok (.d2f, 1) := by decide +kernel
theorem dX7_meterAll_13 : decode cX7_meterAll 13 = .ok (.freturn, 1) := by decide +kernel
theorem dX7_isCell_0 : decode cX7_isCell 0 = .ok (.iload_n 0, 1) := by decide +kernel
theorem dX7_isCell_1 : decode cX7_isCell 1 = .ok (.i2l, 1) := by decide +kernel
theorem dX7_isCell_2 : decode cX7_isCell 2 = .ok (.lconst 0, 1) := by decide +kernel
theorem dX7_isCell_3 : decode cX7_isCell 3 = .ok (.ldc2_w 291, 3) := by decide +kernel
theorem dX7_isCell_6 : decode cX7_isCell 6 = .ok (.invokestatic 95, 3) := by decide +kernel
theorem dX7_isCell_9 : decode cX7_isCell 9 = .ok (.ireturn, 1) := by decide +kernel
theorem dX7_meter_0 : decode cX7_meter 0 = .ok (.aload_n 0, 1) := by decide +kernel
theorem dX7_meter_1 : decode cX7_meter 1 = .ok (.iload_n 1, 1) := by decide +kernel
theorem dX7_meter_2 : decode cX7_meter 2 = .ok (.invokevirtual 188, 3) := by decide +kernel
theorem dX7_meter_5 : decode cX7_meter 5 = .ok (.ifCond .eq 13, 3) := by decide +kernel
theorem dX7_meter_8 : decode cX7_meter 8 = .ok (.iload_n 2, 1) := by decide +kernel
theorem dX7_meter_9 : decode cX7_meter 9 = .ok (.i2l, 1) := by decide +kernel
theorem dX7_meter_10 : decode cX7_meter 10 = .ok (.lconst 0, 1) := by decide +kernel
theorem dX7_meter_11 : decode cX7_meter 11 = .ok (.lconst 1, 1) := by decide +kernel
theorem dX7_meter_12 : decode cX7_meter 12 = .ok (.invokestatic 95, 3) := by decide +kernel
theorem dX7_meter_15 : decode cX7_meter 15 = .ok (.ifCond .ne 7, 3) := by decide +kernel
theorem dX7_meter_18 : decode cX7_meter 18 = .ok (.ldc2_w 193, 3) := by decide +kernel
theorem dX7_meter_21 : decode cX7_meter 21 = .ok (.lreturn, 1) := by decide +kernel
theorem dX7_meter_22 : decode cX7_meter 22 = .ok (.aload_n 0, 1) := by decide +kernel
theorem dX7_meter_23 : decode cX7_meter 23 = .ok (.iload_n 1, 1) := by decide +kernel
theorem dX7_meter_24 : decode cX7_meter 24 = .ok (.invokevirtual 195, 3) := by decide +kernel
theorem dX7_meter_27 : decode cX7_meter 27 = .ok (.aload_n 0, 1) := by decide +kernel
theorem dX7_meter_28 : decode cX7_meter 28 = .ok (.invokevirtual 287, 3) := by decide +kernel
theorem dX7_meter_31 : decode cX7_meter 31 = .ok (.dstore_n 3, 1) := by decide +kernel
theorem dX7_meter_32 : decode cX7_meter 32 = .ok (.iload_n 2, 1) := by decide +kernel
theorem dX7_meter_33 : decode cX7_meter 33 = .ok (.ifCond .ne 12, 3) := by decide +kernel
theorem dX7_meter_36 : decode cX7_meter 36 = .ok (.dload_n 3, 1) := by decide +kernel
theorem dX7_meter_37 : decode cX7_meter 37 = .ok (.d2f, 1) := by decide +kernel
theorem dX7_meter_38 : decode cX7_meter 38 = .ok (.invokestatic 293, 3) := by decide +kernel
theorem dX7_meter_41 : decode cX7_meter 41 = .ok (.i2l, 1) := by decide +kernel
theorem dX7_meter_42 : decode cX7_meter 42 = .ok (.goto 7, 3) := by decide +kernel
theorem dX7_meter_45 : decode cX7_meter 45 = .ok (.dload_n 3, 1) := by decide +kernel
theorem dX7_meter_46 : decode cX7_meter 46 = .ok (.invokestatic 299, 3) := by decide +kernel
theorem dX7_meter_49 : decode cX7_meter 49 = .ok (.lreturn, 1) := by decide +kernel
theorem dX7_expose_0 : decode cX7_expose 0 = .ok (.iload_n 1, 1) := by decide +kernel
theorem dX7_expose_1 : decode cX7_expose 1 = .ok (.invokestatic 305, 3) := by decide +kernel
theorem dX7_expose_4 : decode cX7_expose 4 = .ok (.ifCond .ne 5, 3) := by decide +kernel
theorem dX7_expose_7 : decode cX7_expose 7 = .ok (.iconst (-1), 1) := by decide +kernel
theorem dX7_expose_8 : decode cX7_expose 8 = .ok (.ireturn, 1) := by decide +kernel
theorem dX7_expose_9 : decode cX7_expose 9 = .ok (.aload_n 0, 1) := by decide +kernel
theorem dX7_expose_10 : decode cX7_expose 10 = .ok (.getfield 48, 3) := by decide +kernel
theorem dX7_expose_13 : decode cX7_expose 13 = .ok (.iload_n 1, 1) := by decide +kernel
theorem dX7_expose_14 : decode cX7_expose 14 = .ok (.aload_n 0, 1) := by decide +kernel
theorem dX7_expose_15 : decode cX7_expose 15 = .ok (.getfield 48, 3) := by decide +kernel
theorem dX7_expose_18 : decode cX7_expose 18 = .ok (.iload_n 1, 1) := by decide +kernel
theorem dX7_expose_19 : decode cX7_expose 19 = .ok (.faload, 1) := by decide +kernel
theorem dX7_expose_20 : decode cX7_expose 20 = .ok (.aload_n 0, 1) := by decide +kernel
theorem dX7_expose_21 : decode cX7_expose 21 = .ok (.invokevirtual 308, 3) := by decide +kernel
theorem dX7_expose_24 : decode cX7_expose 24 = .ok (.fadd, 1) := by decide +kernel
theorem dX7_expose_25 : decode cX7_expose 25 = .ok (.fastore, 1) := by decide +kernel
theorem dX7_expose_26 : decode cX7_expose 26 = .ok (.aload_n 0, 1) := by decide +kernel
theorem dX7_expose_27 : decode cX7_expose 27 = .ok (.getfield 48, 3) := by decide +kernel
theorem dX7_expose_30 : decode cX7_expose 30 = .ok (.iload_n 1, 1) := by decide +kernel
theorem dX7_expose_31 : decode cX7_expose 31 = .ok (.faload, 1) := by decide +kernel
theorem dX7_expose_32 : decode cX7_expose 32 = .ok (.invokestatic 293, 3) := by decide +kernel
theorem dX7_expose_35 : decode cX7_expose 35 = .ok (.ireturn, 1) := by decide +kernel
theorem dX7_dim_0 : decode cX7_dim 0 = .ok (.iload_n 1, 1) := by decide +kernel
theorem dX7_dim_1 : decode cX7_dim 1 = .ok (.invokestatic 305, 3) := by decide +kernel
theorem dX7_dim_4 : decode cX7_dim 4 = .ok (.ifCond .ne 5, 3) := by decide +kernel
theorem dX7_dim_7 : decode cX7_dim 7 = .ok (.iconst (-1), 1) := by decide +kernel
theorem dX7_dim_8 : decode cX7_dim 8 = .ok (.ireturn, 1) := by decide +kernel
theorem dX7_dim_9 : decode cX7_dim 9 = .ok (.iload_n 2, 1) := by decide +kernel
theorem dX7_dim_10 : decode cX7_dim 10 = .ok (.i2l, 1) := by decide +kernel
theorem dX7_dim_11 : decode cX7_dim 11 = .ok (.lconst 0, 1) := by decide +kernel
theorem dX7_dim_12 : decode cX7_dim 12 = .ok (.ldc2_w 9, 3) := by decide +kernel
theorem dX7_dim_15 : decode cX7_dim 15 = .ok (.invokestatic 95, 3) := by decide +kernel
theorem dX7_dim_18 : decode cX7_dim 18 = .ok (.ifCond .ne 6, 3) := by decide +kernel
theorem dX7_dim_21 : decode cX7_dim 21 = .ok (.bipush (-2), 2) := by decide +kernel
theorem dX7_dim_23 : decode cX7_dim 23 = .ok (.ireturn, 1) := by decide +kernel
theorem dX7_dim_24 : decode cX7_dim 24 = .ok (.aload_n 0, 1) := by decide +kernel
theorem dX7_dim_25 : decode cX7_dim 25 = .ok (.getfield 48, 3) := by decide +kernel
theorem dX7_dim_28 : decode cX7_dim 28 = .ok (.iload_n 1, 1) := by decide +kernel
theorem dX7_dim_29 : decode cX7_dim 29 = .ok (.faload, 1) := by decide +kernel
theorem dX7_dim_30 : decode cX7_dim 30 = .ok (.iload_n 2, 1) := by decide +kernel
theorem dX7_dim_31 : decode cX7_dim 31 = .ok (.i2f, 1) := by decide +kernel
theorem dX7_dim_32 : decode cX7_dim 32 = .ok (.fmul, 1) := by decide +kernel
theorem dX7_dim_33 : decode cX7_dim 33 = .ok (.fstore_n 3, 1) := by decide +kernel
theorem dX7_dim_34 : decode cX7_dim 34 = .ok (.aload_n 0, 1) := by decide +kernel
theorem dX7_dim_35 : decode cX7_dim 35 = .ok (.getfield 48, 3) := by decide +kernel
theorem dX7_dim_38 : decode cX7_dim 38 = .ok (.iload_n 1, 1) := by decide +kernel
theorem dX7_dim_39 : decode cX7_dim 39 = .ok (.fload_n 3, 1) := by decide +kernel
theorem dX7_dim_40 : decode cX7_dim 40 = .ok (.ldc_w 312, 3) := by decide +kernel
theorem dX7_dim_43 : decode cX7_dim 43 = .ok (.fdiv, 1) := by decide +kernel
theorem dX7_dim_44 : decode cX7_dim 44 = .ok (.fastore, 1) := by decide +kernel
theorem dX7_dim_45 : decode cX7_dim 45 = .ok (.aload_n 0, 1) := by decide +kernel
theorem dX7_dim_46 : decode cX7_dim 46 = .ok (.getfield 48, 3) := by decide +kernel
theorem dX7_dim_49 : decode cX7_dim 49 = .ok (.iload_n 1, 1) := by decide +kernel
theorem dX7_dim_50 : decode cX7_dim 50 = .ok (.faload, 1) := by decide +kernel
theorem dX7_dim_51 : decode cX7_dim 51 = .ok (.invokestatic 293, 3) := by decide +kernel
theorem dX7_dim_54 : decode cX7_dim 54 = .ok (.ireturn, 1) := by decide +kernel
theorem dX7_film_0 : decode cX7_film 0 = .ok (.iload_n 1, 1) := by decide +kernel
theorem dX7_film_1 : decode cX7_film 1 = .ok (.invokestatic 305, 3) := by decide +kernel
theorem dX7_film_4 : decode cX7_film 4 = .ok (.ifCond .eq 15, 3) := by decide +kernel
theorem dX7_film_7 : decode cX7_film 7 = .ok (.iload_n 2, 1) := by decide +kernel
theorem dX7_film_8 : decode cX7_film 8 = .ok (.i2l, 1) := by decide +kernel
theorem dX7_film_9 : decode cX7_film 9 = .ok (.lconst 0, 1) := by decide +kernel
theorem dX7_film_10 : decode cX7_film 10 = .ok (.ldc2_w 99, 3) := by decide +kernel
theorem dX7_film_13 : decode cX7_film 13 = .ok (.invokestatic 95, 3) := by decide +kernel
theorem dX7_film_16 : decode cX7_film 16 = .ok (.ifCond .ne 5, 3) := by decide +kernel
theorem dX7_film_19 : decode cX7_film 19 = .ok (.iconst (-1), 1) := by decide +kernel
theorem dX7_film_20 : decode cX7_film 20 = .ok (.ireturn, 1) := by decide +kernel
theorem dX7_film_21 : decode cX7_film 21 = .ok (.iload_n 2, 1) := by decide +kernel
theorem dX7_film_22 : decode cX7_film 22 = .ok (.iconst 2, 1) := by decide +kernel
theorem dX7_film_23 : decode cX7_film 23 = .ok (.if_icmp .ne 23, 3) := by decide +kernel
theorem dX7_film_26 : decode cX7_film 26 = .ok (.aload_n 0, 1) := by decide +kernel
theorem dX7_film_27 : decode cX7_film 27 = .ok (.getfield 48, 3) := by decide +kernel
theorem dX7_film_30 : decode cX7_film 30 = .ok (.iload_n 1, 1) := by decide +kernel
theorem dX7_film_31 : decode cX7_film 31 = .ok (.faload, 1) := by decide +kernel
theorem dX7_film_32 : decode cX7_film 32 = .ok (.aload_n 0, 1) := by decide +kernel
theorem dX7_film_33 : decode cX7_film 33 = .ok (.invokevirtual 308, 3) := by decide +kernel
theorem dX7_film_36 : decode cX7_film 36 = .ok (.fcmp .l, 1) := by decide +kernel
theorem dX7_film_37 : decode cX7_film 37 = .ok (.ifCond .le 7, 3) := by decide +kernel
theorem dX7_film_40 : decode cX7_film 40 = .ok (.iconst 1, 1) := by decide +kernel
theorem dX7_film_41 : decode cX7_film 41 = .ok (.goto 4, 3) := by decide +kernel
theorem dX7_film_44 : decode cX7_film 44 = .ok (.iconst 0, 1) := by decide +kernel
theorem dX7_film_45 : decode cX7_film 45 = .ok (.ireturn, 1) := by decide +kernel
theorem dX7_film_46 : decode cX7_film 46 = .ok (.iload_n 2, 1) := by decide +kernel
theorem dX7_film_47 : decode cX7_film 47 = .ok (.ifCond .ne 15, 3) := by decide +kernel
theorem dX7_film_50 : decode cX7_film 50 = .ok (.aload_n 0, 1) := by decide +kernel
theorem dX7_film_51 : decode cX7_film 51 = .ok (.getfield 48, 3) := by decide +kernel
theorem dX7_film_54 : decode cX7_film 54 = .ok (.iload_n 1, 1) := by decide +kernel
theorem dX7_film_55 : decode cX7_film 55 = .ok (.faload, 1) := by decide +kernel
theorem dX7_film_56 : decode cX7_film 56 = .ok (.invokestatic 293, 3) := by decide +kernel
theorem dX7_film_59 : decode cX7_film 59 = .ok (.goto 14, 3) := by decide +kernel
theorem dX7_film_62 : decode cX7_film 62 = .ok (.aload_n 0, 1) := by decide +kernel
theorem dX7_film_63 : decode cX7_film 63 = .ok (.getfield 48, 3) := by decide +kernel
theorem dX7_film_66 : decode cX7_film 66 = .ok (.iload_n 1, 1) := by decide +kernel
theorem dX7_film_67 : decode cX7_film 67 = .ok (.faload, 1) := by decide +kernel
theorem dX7_film_68 : decode cX7_film 68 = .ok (.ldc_w 313, 3) := by decide +kernel
theorem dX7_film_71 : decode cX7_film 71 = .ok (.fmul, 1) := by decide +kernel
theorem dX7_film_72 : decode cX7_film 72 = .ok (.f2i, 1) := by decide +kernel
theorem dX7_film_73 : decode cX7_film 73 = .ok (.ireturn, 1) := by decide +kernel
theorem dX7_sumFilm_0 : decode cX7_sumFilm 0 = .ok (.iload_n 1, 1) := by decide +kernel
theorem dX7_sumFilm_1 : decode cX7_sumFilm 1 = .ok (.i2l, 1) := by decide +kernel
theorem dX7_sumFilm_2 : decode cX7_sumFilm 2 = .ok (.lconst 0, 1) := by decide +kernel
theorem dX7_sumFilm_3 : decode cX7_sumFilm 3 = .ok (.lconst 1, 1) := by decide +kernel
theorem dX7_sumFilm_4 : decode cX7_sumFilm 4 = .ok (.invokestatic 95, 3) := by decide +kernel
theorem dX7_sumFilm_7 : decode cX7_sumFilm 7 = .ok (.ifCond .ne 7, 3) := by decide +kernel
theorem dX7_sumFilm_10 : decode cX7_sumFilm 10 = .ok (.ldc2_w 193, 3) := by decide +kernel
theorem dX7_sumFilm_13 : decode cX7_sumFilm 13 = .ok (.lreturn, 1) := by decide +kernel
theorem dX7_sumFilm_14 : decode cX7_sumFilm 14 = .ok (.fconst 0, 1) := by decide +kernel
theorem dX7_sumFilm_15 : decode cX7_sumFilm 15 = .ok (.fstore_n 2, 1) := by decide +kernel
theorem dX7_sumFilm_16 : decode cX7_sumFilm 16 = .ok (.dconst 0, 1) := by decide +kernel
theorem dX7_sumFilm_17 : decode cX7_sumFilm 17 = .ok (.dstore_n 3, 1) := by decide +kernel
theorem dX7_sumFilm_18 : decode cX7_sumFilm 18 = .ok (.iconst 0, 1) := by decide +kernel
theorem dX7_sumFilm_19 : decode cX7_sumFilm 19 = .ok (.istore 5, 2) := by decide +kernel
theorem dX7_sumFilm_21 : decode cX7_sumFilm 21 = .ok (.iload 5, 2) := by decide +kernel
theorem dX7_sumFilm_23 : decode cX7_sumFilm 23 = .ok (.bipush 8, 2) := by decide +kernel
theorem dX7_sumFilm_25 : decode cX7_sumFilm 25 = .ok (.if_icmp .ge 30, 3) := by decide +kernel
theorem dX7_sumFilm_28 : decode cX7_sumFilm 28 = .ok (.fload_n 2, 1) := by decide +kernel
theorem dX7_sumFilm_29 : decode cX7_sumFilm 29 = .ok (.aload_n 0, 1) := by decide +kernel
theorem dX7_sumFilm_30 : decode cX7_sumFilm 30 = .ok (.getfield 48, 3) := by decide +kernel
theorem dX7_sumFilm_33 : decode cX7_sumFilm 33 = .ok (.iload 5, 2) := by decide +kernel
theorem dX7_sumFilm_35 : decode cX7_sumFilm 35 = .ok (.faload, 1) := by decide +kernel
theorem dX7_sumFilm_36 : decode cX7_sumFilm 36 = .ok (.fadd, 1) := by decide +kernel
theorem dX7_sumFilm_37 : decode cX7_sumFilm 37 = .ok (.fstore_n 2, 1) := by decide +kernel
theorem dX7_sumFilm_38 : decode cX7_sumFilm 38 = .ok (.dload_n 3, 1) := by decide +kernel
theorem dX7_sumFilm_39 : decode cX7_sumFilm 39 = .ok (.aload_n 0, 1) := by decide +kernel
theorem dX7_sumFilm_40 : decode cX7_sumFilm 40 = .ok (.getfield 48, 3) := by decide +kernel
theorem dX7_sumFilm_43 : decode cX7_sumFilm 43 = .ok (.iload 5, 2) := by decide +kernel
theorem dX7_sumFilm_45 : decode cX7_sumFilm 45 = .ok (.faload, 1) := by decide +kernel
theorem dX7_sumFilm_46 : decode cX7_sumFilm 46 = .ok (.f2d, 1) := by decide +kernel
theorem dX7_sumFilm_47 : decode cX7_sumFilm 47 = .ok (.dadd, 1) := by decide +kernel
theorem dX7_sumFilm_48 : decode cX7_sumFilm 48 = .ok (.dstore_n 3, 1) := by decide +kernel
theorem dX7_sumFilm_49 : decode cX7_sumFilm 49 = .ok (.iinc 5 1, 3) := by decide +kernel
theorem dX7_sumFilm_52 : decode cX7_sumFilm 52 = .ok (.goto (-31), 3) := by decide +kernel
theorem dX7_sumFilm_55 : decode cX7_sumFilm 55 = .ok (.iload_n 1, 1) := by decide +kernel
theorem dX7_sumFilm_56 : decode cX7_sumFilm 56 = .ok (.ifCond .ne 11, 3) := by decide +kernel
theorem dX7_sumFilm_59 : decode cX7_sumFilm 59 = .ok (.fload_n 2, 1) := by decide +kernel
theorem dX7_sumFilm_60 : decode cX7_sumFilm 60 = .ok (.invokestatic 293, 3) := by decide +kernel
theorem dX7_sumFilm_63 : decode cX7_sumFilm 63 = .ok (.i2l, 1) := by decide +kernel
theorem dX7_sumFilm_64 : decode cX7_sumFilm 64 = .ok (.goto 7, 3) := by decide +kernel
theorem dX7_sumFilm_67 : decode cX7_sumFilm 67 = .ok (.dload_n 3, 1) := by decide +kernel
theorem dX7_sumFilm_68 : decode cX7_sumFilm 68 = .ok (.invokestatic 299, 3) := by decide +kernel
theorem dX7_sumFilm_71 : decode cX7_sumFilm 71 = .ok (.lreturn, 1) := by decide +kernel
theorem dX7_isRack_0 : decode cX7_isRack 0 = .ok (.iload_n 0, 1) := by decide +kernel
theorem dX7_isRack_1 : decode cX7_isRack 1 = .ok (.i2l, 1) := by decide +kernel
theorem dX7_isRack_2 : decode cX7_isRack 2 = .ok (.lconst 0, 1) := by decide +kernel
theorem dX7_isRack_3 : decode cX7_isRack 3 = .ok (.ldc2_w 99, 3) := by decide +kernel
theorem dX7_isRack_6 : decode cX7_isRack 6 = .ok (.invokestatic 95, 3) := by decide +kernel
theorem dX7_isRack_9 : decode cX7_isRack 9 = .ok (.ireturn, 1) := by decide +kernel
theorem dX7_isPlace_0 : decode cX7_isPlace 0 = .ok (.iload_n 0, 1) := by decide +kernel
theorem dX7_isPlace_1 : decode cX7_isPlace 1 = .ok (.i2l, 1) := by decide +kernel
theorem dX7_isPlace_2 : decode cX7_isPlace 2 = .ok (.lconst 0, 1) := by decide +kernel
theorem dX7_isPlace_3 : decode cX7_isPlace 3 = .ok (.ldc2_w 160, 3) := by decide +kernel
theorem dX7_isPlace_6 : decode cX7_isPlace 6 = .ok (.invokestatic 95, 3) := by decide +kernel
theorem dX7_isPlace_9 : decode cX7_isPlace 9 = .ok (.ireturn, 1) := by decide +kernel
theorem dX7_doesTake_0 : decode cX7_doesTake 0 = .ok (.aload_n 0, 1) := by decide +kernel
theorem dX7_doesTake_1 : decode cX7_doesTake 1 = .ok (.getfield 55, 3) := by decide +kernel
theorem dX7_doesTake_4 : decode cX7_doesTake 4 = .ok (.iload_n 1, 1) := by decide +kernel
theorem dX7_doesTake_5 : decode cX7_doesTake 5 = .ok (.iaload, 1) := by decide +kernel
theorem dX7_doesTake_6 : decode cX7_doesTake 6 = .ok (.iconst 2, 1) := by decide +kernel
theorem dX7_doesTake_7 : decode cX7_doesTake 7 = .ok (.if_icmp .eq 24, 3) := by decide +kernel
theorem dX7_doesTake_10 : decode cX7_doesTake 10 = .ok (.iload_n 2, 1) := by decide +kernel
theorem dX7_doesTake_11 : decode cX7_doesTake 11 = .ok (.aload_n 0, 1) := by decide +kernel
theorem dX7_doesTake_12 : decode cX7_doesTake 12 = .ok (.getfield 55, 3) := by decide +kernel
theorem dX7_doesTake_15 : decode cX7_doesTake 15 = .ok (.iload_n 1, 1) := by decide +kernel
theorem dX7_doesTake_16 : decode cX7_doesTake 16 = .ok (.iaload, 1) := by decide +kernel
theorem dX7_doesTake_17 : decode cX7_doesTake 17 = .ok (.ifCond .ne 7, 3) := by decide +kernel
theorem dX7_doesTake_20 : decode cX7_doesTake 20 = .ok (.iconst 2, 1) := by decide +kernel
theorem dX7_doesTake_21 : decode cX7_doesTake 21 = .ok (.goto 4, 3) := by decide +kernel
theorem dX7_doesTake_24 : decode cX7_doesTake 24 = .ok (.iconst 4, 1) := by decide +kernel
theorem dX7_doesTake_25 : decode cX7_doesTake 25 = .ok (.invokestatic 184, 3) := by decide +kernel
theorem dX7_doesTake_28 : decode cX7_doesTake 28 = .ok (.ifCond .eq 7, 3) := by decide +kernel
theorem dX7_doesTake_31 : decode cX7_doesTake 31 = .ok (.iconst 1, 1) := by decide +kernel
theorem dX7_doesTake_32 : decode cX7_doesTake 32 = .ok (.goto 4, 3) := by decide +kernel
theorem dX7_doesTake_35 : decode cX7_doesTake 35 = .ok (.iconst 0, 1) := by decide +kernel
theorem dX7_doesTake_36 : decode cX7_doesTake 36 = .ok (.ireturn, 1) := by decide +kernel
theorem dX7_store_0 : decode cX7_store 0 = .ok (.iload_n 1, 1) := by decide +kernel
theorem dX7_store_1 : decode cX7_store 1 = .ok (.invokestatic 314, 3) := by decide +kernel
theorem dX7_store_4 : decode cX7_store 4 = .ok (.ifCond .eq 11, 3) := by decide +kernel
theorem dX7_store_7 : decode cX7_store 7 = .ok (.aload_n 0, 1) := by decide +kernel
theorem dX7_store_8 : decode cX7_store 8 = .ok (.iload_n 3, 1) := by decide +kernel
theorem dX7_store_9 : decode cX7_store 9 = .ok (.invokevirtual 169, 3) := by decide +kernel
theorem dX7_store_12 : decode cX7_store 12 = .ok (.ifCond .ne 5, 3) := by decide +kernel
theorem dX7_store_15 : decode cX7_store 15 = .ok (.iconst (-1), 1) := by decide +kernel
theorem dX7_store_16 : decode cX7_store 16 = .ok (.ireturn, 1) := by decide +kernel
theorem dX7_store_17 : decode cX7_store 17 = .ok (.iload_n 2, 1) := by decide +kernel
theorem dX7_store_18 : decode cX7_store 18 = .ok (.invokestatic 317, 3) := by decide +kernel
theorem dX7_store_21 : decode cX7_store 21 = .ok (.ifCond .ne 6, 3) := by decide +kernel
theorem dX7_store_24 : decode cX7_store 24 = .ok (.bipush (-13), 2) := by decide +kernel
theorem dX7_store_26 : decode cX7_store 26 = .ok (.ireturn, 1) := by decide +kernel
theorem dX7_store_27 : decode cX7_store 27 = .ok (.aload_n 0, 1) := by decide +kernel
theorem dX7_store_28 : decode cX7_store 28 = .ok (.iload_n 1, 1) := by decide +kernel
theorem dX7_store_29 : decode cX7_store 29 = .ok (.aload_n 0, 1) := by decide +kernel
theorem dX7_store_30 : decode cX7_store 30 = .ok (.getfield 17, 3) := by decide +kernel
theorem dX7_store_33 : decode cX7_store 33 = .ok (.iload_n 3, 1) := by decide +kernel
theorem dX7_store_34 : decode cX7_store 34 = .ok (.iaload, 1) := by decide +kernel
theorem dX7_store_35 : decode cX7_store 35 = .ok (.invokestatic 101, 3) := by decide +kernel
theorem dX7_store_38 : decode cX7_store 38 = .ok (.invokevirtual 320, 3) := by decide +kernel
theorem dX7_store_41 : decode cX7_store 41 = .ok (.ifCond .ne 6, 3) := by decide +kernel
theorem dX7_store_44 : decode cX7_store 44 = .ok (.bipush (-16), 2) := by decide +kernel
theorem dX7_store_46 : decode cX7_store 46 = .ok (.ireturn, 1) := by decide +kernel
theorem dX7_store_47 : decode cX7_store 47 = .ok (.aload_n 0, 1) := by decide +kernel
theorem dX7_store_48 : decode cX7_store 48 = .ok (.getfield 52, 3) := by decide +kernel
theorem dX7_store_51 : decode cX7_store 51 = .ok (.iconst 4, 1) := by decide +kernel
theorem dX7_store_52 : decode cX7_store 52 = .ok (.iload_n 1, 1) := by decide +kernel
theorem dX7_store_53 : decode cX7_store 53 = .ok (.imul, 1) := by decide +kernel
theorem dX7_store_54 : decode cX7_store 54 = .ok (.iload_n 2, 1) := by decide +kernel
theorem dX7_store_55 : decode cX7_store 55 = .ok (.iadd, 1) := by decide +kernel
theorem dX7_store_56 : decode cX7_store 56 = .ok (.aload_n 0, 1) := by decide +kernel
theorem dX7_store_57 : decode cX7_store 57 = .ok (.getfield 17, 3) := by decide +kernel
theorem dX7_store_60 : decode cX7_store 60 = .ok (.iload_n 3, 1) := by decide +kernel
theorem dX7_store_61 : decode cX7_store 61 = .ok (.iaload, 1) := by decide +kernel
theorem dX7_store_62 : decode cX7_store 62 = .ok (.iastore, 1) := by decide +kernel
theorem dX7_store_63 : decode cX7_store 63 = .ok (.iconst 1, 1) := by decide +kernel
theorem dX7_store_64 : decode cX7_store 64 = .ok (.ireturn, 1) := by decide +kernel
theorem dX7_empty_0 : decode cX7_empty 0 = .ok (.iload_n 1, 1) := by decide +kernel
theorem dX7_empty_1 : decode cX7_empty 1 = .ok (.invokestatic 314, 3) := by decide +kernel
theorem dX7_empty_4 : decode cX7_empty 4 = .ok (.ifCond .ne 5, 3) := by decide +kernel
theorem dX7_empty_7 : decode cX7_empty 7 = .ok (.iconst (-1), 1) := by decide +kernel
theorem dX7_empty_8 : decode cX7_empty 8 = .ok (.ireturn, 1) := by decide +kernel
theorem dX7_empty_9 : decode cX7_empty 9 = .ok (.iload_n 2, 1) := by decide +kernel
theorem dX7_empty_10 : decode cX7_empty 10 = .ok (.invokestatic 317, 3) := by decide +kernel
theorem dX7_empty_13 : decode cX7_empty 13 = .ok (.ifCond .ne 6, 3) := by decide +kernel
theorem dX7_empty_16 : decode cX7_empty 16 = .ok (.bipush (-13), 2) := by decide +kernel
theorem dX7_empty_18 : decode cX7_empty 18 = .ok (.ireturn, 1) := by decide +kernel
theorem dX7_empty_19 : decode cX7_empty 19 = .ok (.aload_n 0, 1) := by decide +kernel
theorem dX7_empty_20 : decode cX7_empty 20 = .ok (.getfield 52, 3) := by decide +kernel
theorem dX7_empty_23 : decode cX7_empty 23 = .ok (.iconst 4, 1) := by decide +kernel
theorem dX7_empty_24 : decode cX7_empty 24 = .ok (.iload_n 1, 1) := by decide +kernel
theorem dX7_empty_25 : decode cX7_empty 25 = .ok (.imul, 1) := by decide +kernel
theorem dX7_empty_26 : decode cX7_empty 26 = .ok (.iload_n 2, 1) := by decide +kernel
theorem dX7_empty_27 : decode cX7_empty 27 = .ok (.iadd, 1) := by decide +kernel
theorem dX7_empty_28 : decode cX7_empty 28 = .ok (.iaload, 1) := by decide +kernel
theorem dX7_empty_29 : decode cX7_empty 29 = .ok (.istore_n 3, 1) := by decide +kernel
theorem dX7_empty_30 : decode cX7_empty 30 = .ok (.aload_n 0, 1) := by decide +kernel
theorem dX7_empty_31 : decode cX7_empty 31 = .ok (.getfield 52, 3) := by decide +kernel
theorem dX7_empty_34 : decode cX7_empty 34 = .ok (.iconst 4, 1) := by decide +kernel
theorem dX7_empty_35 : decode cX7_empty 35 = .ok (.iload_n 1, 1) := by decide +kernel
theorem dX7_empty_36 : decode cX7_empty 36 = .ok (.imul, 1) := by decide +kernel
theorem dX7_empty_37 : decode cX7_empty 37 = .ok (.iload_n 2, 1) := by decide +kernel
theorem dX7_empty_38 : decode cX7_empty 38 = .ok (.iadd, 1) := by decide +kernel
theorem dX7_empty_39 : decode cX7_empty 39 = .ok (.iconst (-1), 1) := by decide +kernel
theorem dX7_empty_40 : decode cX7_empty 40 = .ok (.iastore, 1) := by decide +kernel
theorem dX7_empty_41 : decode cX7_empty 41 = .ok (.iload_n 3, 1) := by decide +kernel
theorem dX7_empty_42 : decode cX7_empty 42 = .ok (.iconst (-1), 1) := by decide +kernel
theorem dX7_empty_43 : decode cX7_empty 43 = .ok (.if_icmp .ne 8, 3) := by decide +kernel
theorem dX7_empty_46 : decode cX7_empty 46 = .ok (.bipush (-5), 2) := by decide +kernel
theorem dX7_empty_48 : decode cX7_empty 48 = .ok (.goto 4, 3) := by decide +kernel
theorem dX7_empty_51 : decode cX7_empty 51 = .ok (.iload_n 3, 1) := by decide +kernel
theorem dX7_empty_52 : decode cX7_empty 52 = .ok (.ireturn, 1) := by decide +kernel
theorem dX7_fetch_0 : decode cX7_fetch 0 = .ok (.iload_n 1, 1) := by decide +kernel
theorem dX7_fetch_1 : decode cX7_fetch 1 = .ok (.invokestatic 314, 3) := by decide +kernel
theorem dX7_fetch_4 : decode cX7_fetch 4 = .ok (.ifCond .ne 5, 3) := by decide +kernel
theorem dX7_fetch_7 : decode cX7_fetch 7 = .ok (.iconst (-1), 1) := by decide +kernel
theorem dX7_fetch_8 : decode cX7_fetch 8 = .ok (.ireturn, 1) := by decide +kernel
theorem dX7_fetch_9 : decode cX7_fetch 9 = .ok (.iload_n 2, 1) := by decide +kernel
theorem dX7_fetch_10 : decode cX7_fetch 10 = .ok (.invokestatic 317, 3) := by decide +kernel
theorem dX7_fetch_13 : decode cX7_fetch 13 = .ok (.ifCond .ne 6, 3) := by decide +kernel
theorem dX7_fetch_16 : decode cX7_fetch 16 = .ok (.bipush (-13), 2) := by decide +kernel
theorem dX7_fetch_18 : decode cX7_fetch 18 = .ok (.ireturn, 1) := by decide +kernel
theorem dX7_fetch_19 : decode cX7_fetch 19 = .ok (.aload_n 0, 1) := by decide +kernel
theorem dX7_fetch_20 : decode cX7_fetch 20 = .ok (.getfield 52, 3) := by decide +kernel
theorem dX7_fetch_23 : decode cX7_fetch 23 = .ok (.iconst 4, 1) := by decide +kernel
theorem dX7_fetch_24 : decode cX7_fetch 24 = .ok (.iload_n 1, 1) := by decide +kernel
theorem dX7_fetch_25 : decode cX7_fetch 25 = .ok (.imul, 1) := by decide +kernel
theorem dX7_fetch_26 : decode cX7_fetch 26 = .ok (.iload_n 2, 1) := by decide +kernel
theorem dX7_fetch_27 : decode cX7_fetch 27 = .ok (.iadd, 1) := by decide +kernel
theorem dX7_fetch_28 : decode cX7_fetch 28 = .ok (.iaload, 1) := by decide +kernel
theorem dX7_fetch_29 : decode cX7_fetch 29 = .ok (.istore_n 3, 1) := by decide +kernel
theorem dX7_fetch_30 : decode cX7_fetch 30 = .ok (.iload_n 3, 1) := by decide +kernel
theorem dX7_fetch_31 : decode cX7_fetch 31 = .ok (.iconst (-1), 1) := by decide +kernel
theorem dX7_fetch_32 : decode cX7_fetch 32 = .ok (.if_icmp .ne 8, 3) := by decide +kernel
theorem dX7_fetch_35 : decode cX7_fetch 35 = .ok (.bipush (-5), 2) := by decide +kernel
theorem dX7_fetch_37 : decode cX7_fetch 37 = .ok (.goto 8, 3) := by decide +kernel
theorem dX7_fetch_40 : decode cX7_fetch 40 = .ok (.aload_n 0, 1) := by decide +kernel
theorem dX7_fetch_41 : decode cX7_fetch 41 = .ok (.iload_n 3, 1) := by decide +kernel
theorem dX7_fetch_42 : decode cX7_fetch 42 = .ok (.invokevirtual 166, 3) := by decide +kernel
theorem dX7_fetch_45 : decode cX7_fetch 45 = .ok (.ireturn, 1) := by decide +kernel
theorem dX7_rack_0 : decode cX7_rack 0 = .ok (.iload_n 1, 1) := by decide +kernel
theorem dX7_rack_1 : decode cX7_rack 1 = .ok (.invokestatic 314, 3) := by decide +kernel
theorem dX7_rack_4 : decode cX7_rack 4 = .ok (.ifCond .ne 5, 3) := by decide +kernel
theorem dX7_rack_7 : decode cX7_rack 7 = .ok (.iconst (-1), 1) := by decide +kernel
theorem dX7_rack_8 : decode cX7_rack 8 = .ok (.ireturn, 1) := by decide +kernel
theorem dX7_rack_9 : decode cX7_rack 9 = .ok (.iload_n 2, 1) := by decide +kernel
theorem dX7_rack_10 : decode cX7_rack 10 = .ok (.iconst (-1), 1) := by decide +kernel
theorem dX7_rack_11 : decode cX7_rack 11 = .ok (.if_icmp .ne 10, 3) := by decide +kernel
theorem dX7_rack_14 : decode cX7_rack 14 = .ok (.aload_n 0, 1) := by decide +kernel
theorem dX7_rack_15 : decode cX7_rack 15 = .ok (.getfield 55, 3) := by decide +kernel
theorem dX7_rack_18 : decode cX7_rack 18 = .ok (.iload_n 1, 1) := by decide +kernel
theorem dX7_rack_19 : decode cX7_rack 19 = .ok (.iaload, 1) := by decide +kernel
theorem dX7_rack_20 : decode cX7_rack 20 = .ok (.ireturn, 1) := by decide +kernel
theorem dX7_rack_21 : decode cX7_rack 21 = .ok (.iload_n 2, 1) := by decide +kernel
theorem dX7_rack_22 : decode cX7_rack 22 = .ok (.invokestatic 317, 3) := by decide +kernel
theorem dX7_rack_25 : decode cX7_rack 25 = .ok (.ifCond .ne 6, 3) := by decide +kernel
theorem dX7_rack_28 : decode cX7_rack 28 = .ok (.bipush (-13), 2) := by decide +kernel
theorem dX7_rack_30 : decode cX7_rack 30 = .ok (.ireturn, 1) := by decide +kernel
theorem dX7_rack_31 : decode cX7_rack 31 = .ok (.aload_n 0, 1) := by decide +kernel
theorem dX7_rack_32 : decode cX7_rack 32 = .ok (.getfield 52, 3) := by decide +kernel
theorem dX7_rack_35 : decode cX7_rack 35 = .ok (.iconst 4, 1) := by decide +kernel
theorem dX7_rack_36 : decode cX7_rack 36 = .ok (.iload_n 1, 1) := by decide +kernel
theorem dX7_rack_37 : decode cX7_rack 37 = .ok (.imul, 1) := by decide +kernel
theorem dX7_rack_38 : decode cX7_rack 38 = .ok (.iload_n 2, 1) := by decide +kernel
theorem dX7_rack_39 : decode cX7_rack 39 = .ok (.iadd, 1) := by decide +kernel
theorem dX7_rack_40 : decode cX7_rack 40 = .ok (.iaload, 1) := by decide +kernel
theorem dX7_rack_41 : decode cX7_rack 41 = .ok (.istore_n 3, 1) := by decide +kernel
theorem dX7_rack_42 : decode cX7_rack 42 = .ok (.iload_n 3, 1) := by decide +kernel
theorem dX7_rack_43 : decode cX7_rack 43 = .ok (.iconst (-1), 1) := by decide +kernel
theorem dX7_rack_44 : decode cX7_rack 44 = .ok (.if_icmp .ne 8, 3) := by decide +kernel
theorem dX7_rack_47 : decode cX7_rack 47 = .ok (.bipush (-5), 2) := by decide +kernel
theorem dX7_rack_49 : decode cX7_rack 49 = .ok (.goto 4, 3) := by decide +kernel
theorem dX7_rack_52 : decode cX7_rack 52 = .ok (.iload_n 3, 1) := by decide +kernel
theorem dX7_rack_53 : decode cX7_rack 53 = .ok (.ireturn, 1) := by decide +kernel
theorem dX7_heldIn_0 : decode cX7_heldIn 0 = .ok (.iconst 0, 1) := by decide +kernel
theorem dX7_heldIn_1 : decode cX7_heldIn 1 = .ok (.istore_n 3, 1) := by decide +kernel
theorem dX7_heldIn_2 : decode cX7_heldIn 2 = .ok (.iload_n 1, 1) := by decide +kernel
theorem dX7_heldIn_3 : decode cX7_heldIn 3 = .ok (.istore 4, 2) := by decide +kernel
theorem dX7_heldIn_5 : decode cX7_heldIn 5 = .ok (.iload 4, 2) := by decide +kernel
theorem dX7_heldIn_7 : decode cX7_heldIn 7 = .ok (.iload_n 2, 1) := by decide +kernel
theorem dX7_heldIn_8 : decode cX7_heldIn 8 = .ok (.if_icmp .ge 28, 3) := by decide +kernel
theorem dX7_heldIn_11 : decode cX7_heldIn 11 = .ok (.iload_n 3, 1) := by decide +kernel
theorem dX7_heldIn_12 : decode cX7_heldIn 12 = .ok (.aload_n 0, 1) := by decide +kernel
theorem dX7_heldIn_13 : decode cX7_heldIn 13 = .ok (.getfield 52, 3) := by decide +kernel
theorem dX7_heldIn_16 : decode cX7_heldIn 16 = .ok (.iload 4, 2) := by decide +kernel
theorem dX7_heldIn_18 : decode cX7_heldIn 18 = .ok (.iaload, 1) := by decide +kernel
theorem dX7_heldIn_19 : decode cX7_heldIn 19 = .ok (.iconst (-1), 1) := by decide +kernel
theorem dX7_heldIn_20 : decode cX7_heldIn 20 = .ok (.if_icmp .ne 7, 3) := by decide +kernel
theorem dX7_heldIn_23 : decode cX7_heldIn 23 = .ok (.iconst 0, 1) := by decide +kernel
theorem dX7_heldIn_24 : decode cX7_heldIn 24 = .ok (.goto 4, 3) := by decide +kernel
theorem dX7_heldIn_27 : decode cX7_heldIn 27 = .ok (.iconst 1, 1) := by decide +kernel
theorem dX7_heldIn_28 : decode cX7_heldIn 28 = .ok (.iadd, 1) := by decide +kernel
theorem dX7_heldIn_29 : decode cX7_heldIn 29 = .ok (.istore_n 3, 1) := by decide +kernel
theorem dX7_heldIn_30 : decode cX7_heldIn 30 = .ok (.iinc 4 1, 3) := by decide +kernel
theorem dX7_heldIn_33 : decode cX7_heldIn 33 = .ok (.goto (-28), 3) := by decide +kernel
theorem dX7_heldIn_36 : decode cX7_heldIn 36 = .ok (.iload_n 3, 1) := by decide +kernel
theorem dX7_heldIn_37 : decode cX7_heldIn 37 = .ok (.ireturn, 1) := by decide +kernel
theorem dX7_copy_0 : decode cX7_copy 0 = .ok (.iload_n 1, 1) := by decide +kernel
theorem dX7_copy_1 : decode cX7_copy 1 = .ok (.invokestatic 314, 3) := by decide +kernel
theorem dX7_copy_4 : decode cX7_copy 4 = .ok (.ifCond .eq 10, 3) := by decide +kernel
theorem dX7_copy_7 : decode cX7_copy 7 = .ok (.iload_n 2, 1) := by decide +kernel
theorem dX7_copy_8 : decode cX7_copy 8 = .ok (.invokestatic 314, 3) := by decide +kernel
theorem dX7_copy_11 : decode cX7_copy 11 = .ok (.ifCond .ne 5, 3) := by decide +kernel
theorem dX7_copy_14 : decode cX7_copy 14 = .ok (.iconst (-1), 1) := by decide +kernel
theorem dX7_copy_15 : decode cX7_copy 15 = .ok (.ireturn, 1) := by decide +kernel
theorem dX7_copy_16 : decode cX7_copy 16 = .ok (.aload_n 0, 1) := by decide +kernel
theorem dX7_copy_17 : decode cX7_copy 17 = .ok (.getfield 52, 3) := by decide +kernel
theorem dX7_copy_20 : decode cX7_copy 20 = .ok (.iconst 4, 1) := by decide +kernel
theorem dX7_copy_21 : decode cX7_copy 21 = .ok (.iload_n 1, 1) := by decide +kernel
theorem dX7_copy_22 : decode cX7_copy 22 = .ok (.imul, 1) := by decide +kernel
theorem dX7_copy_23 : decode cX7_copy 23 = .ok (.aload_n 0, 1) := by decide +kernel
theorem dX7_copy_24 : decode cX7_copy 24 = .ok (.getfield 52, 3) := by decide +kernel
theorem dX7_copy_27 : decode cX7_copy 27 = .ok (.iconst 4, 1) := by decide +kernel
theorem dX7_copy_28 : decode cX7_copy 28 = .ok (.iload_n 2, 1) := by decide +kernel
theorem dX7_copy_29 : decode cX7_copy 29 = .ok (.imul, 1) := by decide +kernel
theorem dX7_copy_30 : decode cX7_copy 30 = .ok (.iconst 4, 1) := by decide +kernel
theorem dX7_copy_31 : decode cX7_copy 31 = .ok (.invokestatic 140, 3) := by decide +kernel
theorem dX7_copy_34 : decode cX7_copy 34 = .ok (.aload_n 0, 1) := by decide +kernel
theorem dX7_copy_35 : decode cX7_copy 35 = .ok (.getfield 55, 3) := by decide +kernel
theorem dX7_copy_38 : decode cX7_copy 38 = .ok (.iload_n 2, 1) := by decide +kernel
theorem dX7_copy_39 : decode cX7_copy 39 = .ok (.aload_n 0, 1) := by decide +kernel
theorem dX7_copy_40 : decode cX7_copy 40 = .ok (.getfield 55, 3) := by decide +kernel
theorem dX7_copy_43 : decode cX7_copy 43 = .ok (.iload_n 1, 1) := by decide +kernel
theorem dX7_copy_44 : decode cX7_copy 44 = .ok (.iaload, 1) := by decide +kernel
theorem dX7_copy_45 : decode cX7_copy 45 = .ok (.iastore, 1) := by decide +kernel
theorem dX7_copy_46 : decode cX7_copy 46 = .ok (.aload_n 0, 1) := by decide +kernel
theorem dX7_copy_47 : decode cX7_copy 47 = .ok (.iconst 4, 1) := by decide +kernel
theorem dX7_copy_48 : decode cX7_copy 48 = .ok (.iload_n 2, 1) := by decide +kernel
theorem dX7_copy_49 : decode cX7_copy 49 = .ok (.imul, 1) := by decide +kernel
theorem dX7_copy_50 : decode cX7_copy 50 = .ok (.iconst 4, 1) := by decide +kernel
theorem dX7_copy_51 : decode cX7_copy 51 = .ok (.iload_n 2, 1) := by decide +kernel
theorem dX7_copy_52 : decode cX7_copy 52 = .ok (.imul, 1) := by decide +kernel
theorem dX7_copy_53 : decode cX7_copy 53 = .ok (.iconst 4, 1) := by decide +kernel
theorem dX7_copy_54 : decode cX7_copy 54 = .ok (.iadd, 1) := by decide +kernel
theorem dX7_copy_55 : decode cX7_copy 55 = .ok (.invokevirtual 323, 3) := by decide +kernel
theorem dX7_copy_58 : decode cX7_copy 58 = .ok (.ireturn, 1) := by decide +kernel
theorem dX7_tells_0 : decode cX7_tells 0 = .ok (.aload_n 0, 1) := by decide +kernel
theorem dX7_tells_1 : decode cX7_tells 1 = .ok (.getfield 67, 3) := by decide +kernel
theorem dX7_tells_4 : decode cX7_tells 4 = .ok (.aload_n 0, 1) := by decide +kernel
theorem dX7_tells_5 : decode cX7_tells 5 = .ok (.getfield 217, 3) := by decide +kernel
theorem dX7_tells_8 : decode cX7_tells 8 = .ok (.iload_n 1, 1) := by decide +kernel
theorem dX7_tells_9 : decode cX7_tells 9 = .ok (.iastore, 1) := by decide +kernel
theorem dX7_tells_10 : decode cX7_tells 10 = .ok (.aload_n 0, 1) := by decide +kernel
theorem dX7_tells_11 : decode cX7_tells 11 = .ok (.getfield 70, 3) := by decide +kernel
theorem dX7_tells_14 : decode cX7_tells 14 = .ok (.aload_n 0, 1) := by decide +kernel
theorem dX7_tells_15 : decode cX7_tells 15 = .ok (.getfield 217, 3) := by decide +kernel
theorem dX7_tells_18 : decode cX7_tells 18 = .ok (.iload_n 2, 1) := by decide +kernel
theorem dX7_tells_19 : decode cX7_tells 19 = .ok (.iastore, 1) := by decide +kernel
theorem dX7_tells_20 : decode cX7_tells 20 = .ok (.aload_n 0, 1) := by decide +kernel
theorem dX7_tells_21 : decode cX7_tells 21 = .ok (.dup, 1) := by decide +kernel
theorem dX7_tells_22 : decode cX7_tells 22 = .ok (.getfield 217, 3) := by decide +kernel
theorem dX7_tells_25 : decode cX7_tells 25 = .ok (.iconst 1, 1) := by decide +kernel
theorem dX7_tells_26 : decode cX7_tells 26 = .ok (.iadd, 1) := by decide +kernel
theorem dX7_tells_27 : decode cX7_tells 27 = .ok (.putfield 217, 3) := by decide +kernel
theorem dX7_tells_30 : decode cX7_tells 30 = .ok (.return_, 1) := by decide +kernel
theorem dX7_feed_0 : decode cX7_feed 0 = .ok (.iload_n 1, 1) := by decide +kernel
theorem dX7_feed_1 : decode cX7_feed 1 = .ok (.i2l, 1) := by decide +kernel
theorem dX7_feed_2 : decode cX7_feed 2 = .ok (.lconst 1, 1) := by decide +kernel
theorem dX7_feed_3 : decode cX7_feed 3 = .ok (.ldc2_w 326, 3) := by decide +kernel
theorem dX7_feed_6 : decode cX7_feed 6 = .ok (.invokestatic 95, 3) := by decide +kernel
theorem dX7_feed_9 : decode cX7_feed 9 = .ok (.ifCond .ne 6, 3) := by decide +kernel
theorem dX7_feed_12 : decode cX7_feed 12 = .ok (.bipush (-2), 2) := by decide +kernel
theorem dX7_feed_14 : decode cX7_feed 14 = .ok (.ireturn, 1) := by decide +kernel
theorem dX7_feed_15 : decode cX7_feed 15 = .ok (.aload_n 0, 1) := by decide +kernel
theorem dX7_feed_16 : decode cX7_feed 16 = .ok (.getfield 328, 3) := by decide +kernel
theorem dX7_feed_19 : decode cX7_feed 19 = .ok (.bipush 60, 2) := by decide +kernel
theorem dX7_feed_21 : decode cX7_feed 21 = .ok (.if_icmp .ne 6, 3) := by decide +kernel
theorem dX7_feed_24 : decode cX7_feed 24 = .ok (.bipush (-4), 2) := by decide +kernel
theorem dX7_feed_26 : decode cX7_feed 26 = .ok (.ireturn, 1) := by decide +kernel
theorem dX7_feed_27 : decode cX7_feed 27 = .ok (.aload_n 0, 1) := by decide +kernel
theorem dX7_feed_28 : decode cX7_feed 28 = .ok (.getfield 58, 3) := by decide +kernel
theorem dX7_feed_31 : decode cX7_feed 31 = .ok (.aload_n 0, 1) := by decide +kernel
theorem dX7_feed_32 : decode cX7_feed 32 = .ok (.getfield 328, 3) := by decide +kernel
theorem dX7_feed_35 : decode cX7_feed 35 = .ok (.iload_n 1, 1) := by decide +kernel
theorem dX7_feed_36 : decode cX7_feed 36 = .ok (.iastore, 1) := by decide +kernel
theorem dX7_feed_37 : decode cX7_feed 37 = .ok (.aload_n 0, 1) := by decide +kernel
theorem dX7_feed_38 : decode cX7_feed 38 = .ok (.dup, 1) := by decide +kernel
theorem dX7_feed_39 : decode cX7_feed 39 = .ok (.getfield 328, 3) := by decide +kernel
theorem dX7_feed_42 : decode cX7_feed 42 = .ok (.iconst 1, 1) := by decide +kernel
theorem dX7_feed_43 : decode cX7_feed 43 = .ok (.iadd, 1) := by decide +kernel
theorem dX7_feed_44 : decode cX7_feed 44 = .ok (.putfield 328, 3) := by decide +kernel
theorem dX7_feed_47 : decode cX7_feed 47 = .ok (.aload_n 0, 1) := by decide +kernel
theorem dX7_feed_48 : decode cX7_feed 48 = .ok (.getfield 328, 3) := by decide +kernel
theorem dX7_feed_51 : decode cX7_feed 51 = .ok (.ireturn, 1) := by decide +kernel
theorem dX7_wipe_0 : decode cX7_wipe 0 = .ok (.aload_n 0, 1) := by decide +kernel
theorem dX7_wipe_1 : decode cX7_wipe 1 = .ok (.getfield 328, 3) := by decide +kernel
theorem dX7_wipe_4 : decode cX7_wipe 4 = .ok (.istore_n 1, 1) := by decide +kernel
theorem dX7_wipe_5 : decode cX7_wipe 5 = .ok (.aload_n 0, 1) := by decide +kernel
theorem dX7_wipe_6 : decode cX7_wipe 6 = .ok (.iconst 0, 1) := by decide +kernel
theorem dX7_wipe_7 : decode cX7_wipe 7 = .ok (.putfield 328, 3) := by decide +kernel
theorem dX7_wipe_10 : decode cX7_wipe 10 = .ok (.iload_n 1, 1) := by decide +kernel
theorem dX7_wipe_11 : decode cX7_wipe 11 = .ok (.ireturn, 1) := by decide +kernel
theorem dX7_next_0 : decode cX7_next 0 = .ok (.aload_n 0, 1) := by decide +kernel
theorem dX7_next_1 : decode cX7_next 1 = .ok (.getfield 331, 3) := by decide +kernel
theorem dX7_next_4 : decode cX7_next 4 = .ok (.aload_n 0, 1) := by decide +kernel
theorem dX7_next_5 : decode cX7_next 5 = .ok (.getfield 328, 3) := by decide +kernel
theorem dX7_next_8 : decode cX7_next 8 = .ok (.if_icmp .ge 15, 3) := by decide +kernel
theorem dX7_next_11 : decode cX7_next 11 = .ok (.aload_n 0, 1) := by decide +kernel
theorem dX7_next_12 : decode cX7_next 12 = .ok (.getfield 58, 3) := by decide +kernel
theorem dX7_next_15 : decode cX7_next 15 = .ok (.aload_n 0, 1) := by decide +kernel
theorem dX7_next_16 : decode cX7_next 16 = .ok (.getfield 331, 3) := by decide +kernel
theorem dX7_next_19 : decode cX7_next 19 = .ok (.iaload, 1) := by decide +kernel
theorem dX7_next_20 : decode cX7_next 20 = .ok (.goto 4, 3) := by decide +kernel
theorem dX7_next_23 : decode cX7_next 23 = .ok (.iconst (-1), 1) := by decide +kernel
theorem dX7_next_24 : decode cX7_next 24 = .ok (.ireturn, 1) := by decide +kernel
theorem dX7_isFigure_0 : decode cX7_isFigure 0 = .ok (.aload_n 0, 1) := by decide +kernel
theorem dX7_isFigure_1 : decode cX7_isFigure 1 = .ok (.invokevirtual 334, 3) := by decide +kernel
theorem dX7_isFigure_4 : decode cX7_isFigure 4 = .ok (.i2l, 1) := by decide +kernel
theorem dX7_isFigure_5 : decode cX7_isFigure 5 = .ok (.bipush 48, 2) := by decide +kernel
theorem dX7_isFigure_7 : decode cX7_isFigure 7 = .ok (.iload_n 1, 1) := by decide +kernel
theorem dX7_isFigure_8 : decode cX7_isFigure 8 = .ok (.iadd, 1) := by decide +kernel
theorem dX7_isFigure_9 : decode cX7_isFigure 9 = .ok (.i2l, 1) := by decide +kernel
theorem dX7_isFigure_10 : decode cX7_isFigure 10 = .ok (.bipush 48, 2) := by decide +kernel
theorem dX7_isFigure_12 : decode cX7_isFigure 12 = .ok (.iload_n 2, 1) := by decide +kernel
theorem dX7_isFigure_13 : decode cX7_isFigure 13 = .ok (.iadd, 1) := by decide +kernel
theorem dX7_isFigure_14 : decode cX7_isFigure 14 = .ok (.i2l, 1) := by decide +kernel
theorem dX7_isFigure_15 : decode cX7_isFigure 15 = .ok (.invokestatic 95, 3) := by decide +kernel
theorem dX7_isFigure_18 : decode cX7_isFigure 18 = .ok (.ireturn, 1) := by decide +kernel
theorem dX7_faulty_0 : decode cX7_faulty 0 = .ok (.aload_n 0, 1) := by decide +kernel
theorem dX7_faulty_1 : decode cX7_faulty 1 = .ok (.aload_n 0, 1) := by decide +kernel
theorem dX7_faulty_2 : decode cX7_faulty 2 = .ok (.getfield 338, 3) := by decide +kernel
theorem dX7_faulty_5 : decode cX7_faulty 5 = .ok (.ifCond .ge 7, 3) := by decide +kernel
theorem dX7_faulty_8 : decode cX7_faulty 8 = .ok (.iload_n 1, 1) := by decide +kernel
theorem dX7_faulty_9 : decode cX7_faulty 9 = .ok (.goto 7, 3) := by decide +kernel
theorem dX7_faulty_12 : decode cX7_faulty 12 = .ok (.aload_n 0, 1) := by decide +kernel
theorem dX7_faulty_13 : decode cX7_faulty 13 = .ok (.getfield 338, 3) := by decide +kernel
theorem dX7_faulty_16 : decode cX7_faulty 16 = .ok (.putfield 338, 3) := by decide +kernel
theorem dX7_faulty_19 : decode cX7_faulty 19 = .ok (.return_, 1) := by decide +kernel
theorem dX7_figureTold_0 : decode cX7_figureTold 0 = .ok (.aload_n 0, 1) := by decide +kernel
theorem dX7_figureTold_1 : decode cX7_figureTold 1 = .ok (.iconst 0, 1) := by decide +kernel
theorem dX7_figureTold_2 : decode cX7_figureTold 2 = .ok (.bipush 9, 2) := by decide +kernel
theorem dX7_figureTold_4 : decode cX7_figureTold 4 = .ok (.invokevirtual 341, 3) := by decide +kernel
theorem dX7_figureTold_7 : decode cX7_figureTold 7 = .ok (.ifCond .ne 5, 3) := by decide +kernel
theorem dX7_figureTold_10 : decode cX7_figureTold 10 = .ok (.iconst (-1), 1) := by decide +kernel
theorem dX7_figureTold_11 : decode cX7_figureTold 11 = .ok (.ireturn, 1) := by decide +kernel
theorem dX7_figureTold_12 : decode cX7_figureTold 12 = .ok (.aload_n 0, 1) := by decide +kernel
theorem dX7_figureTold_13 : decode cX7_figureTold 13 = .ok (.getfield 58, 3) := by decide +kernel
theorem dX7_figureTold_16 : decode cX7_figureTold 16 = .ok (.aload_n 0, 1) := by decide +kernel
theorem dX7_figureTold_17 : decode cX7_figureTold 17 = .ok (.getfield 331, 3) := by decide +kernel
theorem dX7_figureTold_20 : decode cX7_figureTold 20 = .ok (.iaload, 1) := by decide +kernel
theorem dX7_figureTold_21 : decode cX7_figureTold 21 = .ok (.bipush 48, 2) := by decide +kernel
theorem dX7_figureTold_23 : decode cX7_figureTold 23 = .ok (.isub, 1) := by decide +kernel
theorem dX7_figureTold_24 : decode cX7_figureTold 24 = .ok (.istore_n 1, 1) := by decide +kernel
theorem dX7_figureTold_25 : decode cX7_figureTold 25 = .ok (.aload_n 0, 1) := by decide +kernel
theorem dX7_figureTold_26 : decode cX7_figureTold 26 = .ok (.dup, 1) := by decide +kernel
theorem dX7_figureTold_27 : decode cX7_figureTold 27 = .ok (.getfield 331, 3) := by decide +kernel
theorem dX7_figureTold_30 : decode cX7_figureTold 30 = .ok (.iconst 1, 1) := by decide +kernel
theorem dX7_figureTold_31 : decode cX7_figureTold 31 = .ok (.iadd, 1) := by decide +kernel
theorem dX7_figureTold_32 : decode cX7_figureTold 32 = .ok (.putfield 331, 3) := by decide +kernel
theorem dX7_figureTold_35 : decode cX7_figureTold 35 = .ok (.aload_n 0, 1) := by decide +kernel
theorem dX7_figureTold_36 : decode cX7_figureTold 36 = .ok (.iconst 0, 1) := by decide +kernel
theorem dX7_figureTold_37 : decode cX7_figureTold 37 = .ok (.bipush 9, 2) := by decide +kernel
theorem dX7_figureTold_39 : decode cX7_figureTold 39 = .ok (.invokevirtual 341, 3) := by decide +kernel
theorem dX7_figureTold_42 : decode cX7_figureTold 42 = .ok (.ifCond .eq 45, 3) := by decide +kernel
theorem dX7_figureTold_45 : decode cX7_figureTold 45 = .ok (.bipush 10, 2) := by decide +kernel
theorem dX7_figureTold_47 : decode cX7_figureTold 47 = .ok (.iload_n 1, 1) := by decide +kernel
theorem dX7_figureTold_48 : decode cX7_figureTold 48 = .ok (.imul, 1) := by decide +kernel
theorem dX7_figureTold_49 : decode cX7_figureTold 49 = .ok (.aload_n 0, 1) := by decide +kernel
theorem dX7_figureTold_50 : decode cX7_figureTold 50 = .ok (.getfield 58, 3) := by decide +kernel
theorem dX7_figureTold_53 : decode cX7_figureTold 53 = .ok (.aload_n 0, 1) := by decide +kernel
theorem dX7_figureTold_54 : decode cX7_figureTold 54 = .ok (.getfield 331, 3) := by decide +kernel
theorem dX7_figureTold_57 : decode cX7_figureTold 57 = .ok (.iaload, 1) := by decide +kernel
theorem dX7_figureTold_58 : decode cX7_figureTold 58 = .ok (.iadd, 1) := by decide +kernel
theorem dX7_figureTold_59 : decode cX7_figureTold 59 = .ok (.bipush 48, 2) := by decide +kernel
theorem dX7_figureTold_61 : decode cX7_figureTold 61 = .ok (.isub, 1) := by decide +kernel
theorem dX7_figureTold_62 : decode cX7_figureTold 62 = .ok (.istore_n 1, 1) := by decide +kernel
theorem dX7_figureTold_63 : decode cX7_figureTold 63 = .ok (.iload_n 1, 1) := by decide +kernel
theorem dX7_figureTold_64 : decode cX7_figureTold 64 = .ok (.bipush 17, 2) := by decide +kernel
theorem dX7_figureTold_66 : decode cX7_figureTold 66 = .ok (.if_icmp .lt 11, 3) := by decide +kernel
theorem dX7_figureTold_69 : decode cX7_figureTold 69 = .ok (.aload_n 0, 1) := by decide +kernel
theorem dX7_figureTold_70 : decode cX7_figureTold 70 = .ok (.aload_n 0, 1) := by decide +kernel
theorem dX7_figureTold_71 : decode cX7_figureTold 71 = .ok (.getfield 331, 3) := by decide +kernel
theorem dX7_figureTold_74 : decode cX7_figureTold 74 = .ok (.invokevirtual 344, 3) := by decide +kernel
theorem dX7_figureTold_77 : decode cX7_figureTold 77 = .ok (.aload_n 0, 1) := by decide +kernel
theorem dX7_figureTold_78 : decode cX7_figureTold 78 = .ok (.dup, 1) := by decide +kernel
theorem dX7_figureTold_79 : decode cX7_figureTold 79 = .ok (.getfield 331, 3) := by decide +kernel
theorem dX7_figureTold_82 : decode cX7_figureTold 82 = .ok (.iconst 1, 1) := by decide +kernel
theorem dX7_figureTold_83 : decode cX7_figureTold 83 = .ok (.iadd, 1) := by decide +kernel
theorem dX7_figureTold_84 : decode cX7_figureTold 84 = .ok (.putfield 331, 3) := by decide +kernel
theorem dX7_figureTold_87 : decode cX7_figureTold 87 = .ok (.iload_n 1, 1) := by decide +kernel
theorem dX7_figureTold_88 : decode cX7_figureTold 88 = .ok (.ireturn, 1) := by decide +kernel
theorem dX7_angleTold_0 : decode cX7_angleTold 0 = .ok (.aload_n 0, 1) := by decide +kernel
theorem dX7_angleTold_1 : decode cX7_angleTold 1 = .ok (.iconst 0, 1) := by decide +kernel
theorem dX7_angleTold_2 : decode cX7_angleTold 2 = .ok (.iconst 3, 1) := by decide +kernel
theorem dX7_angleTold_3 : decode cX7_angleTold 3 = .ok (.invokevirtual 341, 3) := by decide +kernel
theorem dX7_angleTold_6 : decode cX7_angleTold 6 = .ok (.ifCond .ne 13, 3) := by decide +kernel
theorem dX7_angleTold_9 : decode cX7_angleTold 9 = .ok (.aload_n 0, 1) := by decide +kernel
theorem dX7_angleTold_10 : decode cX7_angleTold 10 = .ok (.aload_n 0, 1) := by decide +kernel
theorem dX7_angleTold_11 : decode cX7_angleTold 11 = .ok (.getfield 331, 3) := by decide +kernel
theorem dX7_angleTold_14 : decode cX7_angleTold 14 = .ok (.invokevirtual 344, 3) := by decide +kernel
theorem dX7_angleTold_17 : decode cX7_angleTold 17 = .ok (.iconst 0, 1) := by decide +kernel
theorem dX7_angleTold_18 : decode cX7_angleTold 18 = .ok (.ireturn, 1) := by decide +kernel
theorem dX7_angleTold_19 : decode cX7_angleTold 19 = .ok (.aload_n 0, 1) := by decide +kernel
theorem dX7_angleTold_20 : decode cX7_angleTold 20 = .ok (.dup, 1) := by decide +kernel
theorem dX7_angleTold_21 : decode cX7_angleTold 21 = .ok (.getfield 331, 3) := by decide +kernel
theorem dX7_angleTold_24 : decode cX7_angleTold 24 = .ok (.iconst 1, 1) := by decide +kernel
theorem dX7_angleTold_25 : decode cX7_angleTold 25 = .ok (.iadd, 1) := by decide +kernel
theorem dX7_angleTold_26 : decode cX7_angleTold 26 = .ok (.putfield 331, 3) := by decide +kernel
theorem dX7_angleTold_29 : decode cX7_angleTold 29 = .ok (.aload_n 0, 1) := by decide +kernel
theorem dX7_angleTold_30 : decode cX7_angleTold 30 = .ok (.getfield 58, 3) := by decide +kernel
theorem dX7_angleTold_33 : decode cX7_angleTold 33 = .ok (.aload_n 0, 1) := by decide +kernel
theorem dX7_angleTold_34 : decode cX7_angleTold 34 = .ok (.getfield 331, 3) := by decide +kernel
theorem dX7_angleTold_37 : decode cX7_angleTold 37 = .ok (.iconst 1, 1) := by decide +kernel
theorem dX7_angleTold_38 : decode cX7_angleTold 38 = .ok (.isub, 1) := by decide +kernel
theorem dX7_angleTold_39 : decode cX7_angleTold 39 = .ok (.iaload, 1) := by decide +kernel
theorem dX7_angleTold_40 : decode cX7_angleTold 40 = .ok (.bipush 48, 2) := by decide +kernel
theorem dX7_angleTold_42 : decode cX7_angleTold 42 = .ok (.isub, 1) := by decide +kernel
theorem dX7_angleTold_43 : decode cX7_angleTold 43 = .ok (.ireturn, 1) := by decide +kernel
theorem dX7_filterTold_0 : decode cX7_filterTold 0 = .ok (.aload_n 0, 1) := by decide +kernel
theorem dX7_filterTold_1 : decode cX7_filterTold 1 = .ok (.invokevirtual 334, 3) := by decide +kernel
theorem dX7_filterTold_4 : decode cX7_filterTold 4 = .ok (.istore_n 1, 1) := by decide +kernel
theorem dX7_filterTold_5 : decode cX7_filterTold 5 = .ok (.iload_n 1, 1) := by decide +kernel
theorem dX7_filterTold_6 : decode cX7_filterTold 6 = .ok (.bipush 103, 2) := by decide +kernel
theorem dX7_filterTold_8 : decode cX7_filterTold 8 = .ok (.if_icmp .ne 7, 3) := by decide +kernel
theorem dX7_filterTold_11 : decode cX7_filterTold 11 = .ok (.iconst 0, 1) := by decide +kernel
theorem dX7_filterTold_12 : decode cX7_filterTold 12 = .ok (.goto 65, 3) := by decide +kernel
theorem dX7_filterTold_15 : decode cX7_filterTold 15 = .ok (.iload_n 1, 1) := by decide +kernel
theorem dX7_filterTold_16 : decode cX7_filterTold 16 = .ok (.bipush 121, 2) := by decide +kernel
theorem dX7_filterTold_18 : decode cX7_filterTold 18 = .ok (.if_icmp .ne 7, 3) := by decide +kernel
theorem dX7_filterTold_21 : decode cX7_filterTold 21 = .ok (.iconst 1, 1) := by decide +kernel
theorem dX7_filterTold_22 : decode cX7_filterTold 22 = .ok (.goto 55, 3) := by decide +kernel
theorem dX7_filterTold_25 : decode cX7_filterTold 25 = .ok (.iload_n 1, 1) := by decide +kernel
theorem dX7_filterTold_26 : decode cX7_filterTold 26 = .ok (.bipush 115, 2) := by decide +kernel
theorem dX7_filterTold_28 : decode cX7_filterTold 28 = .ok (.if_icmp .ne 7, 3) := by decide +kernel
theorem dX7_filterTold_31 : decode cX7_filterTold 31 = .ok (.iconst 2, 1) := by decide +kernel
theorem dX7_filterTold_32 : decode cX7_filterTold 32 = .ok (.goto 45, 3) := by decide +kernel
theorem dX7_filterTold_35 : decode cX7_filterTold 35 = .ok (.iload_n 1, 1) := by decide +kernel
theorem dX7_filterTold_36 : decode cX7_filterTold 36 = .ok (.bipush 112, 2) := by decide +kernel
theorem dX7_filterTold_38 : decode cX7_filterTold 38 = .ok (.if_icmp .ne 7, 3) := by decide +kernel
theorem dX7_filterTold_41 : decode cX7_filterTold 41 = .ok (.iconst 3, 1) := by decide +kernel
theorem dX7_filterTold_42 : decode cX7_filterTold 42 = .ok (.goto 35, 3) := by decide +kernel
theorem dX7_filterTold_45 : decode cX7_filterTold 45 = .ok (.iload_n 1, 1) := by decide +kernel
theorem dX7_filterTold_46 : decode cX7_filterTold 46 = .ok (.bipush 119, 2) := by decide +kernel
theorem dX7_filterTold_48 : decode cX7_filterTold 48 = .ok (.if_icmp .ne 7, 3) := by decide +kernel
theorem dX7_filterTold_51 : decode cX7_filterTold 51 = .ok (.iconst 4, 1) := by decide +kernel
theorem dX7_filterTold_52 : decode cX7_filterTold 52 = .ok (.goto 25, 3) := by decide +kernel
theorem dX7_filterTold_55 : decode cX7_filterTold 55 = .ok (.iload_n 1, 1) := by decide +kernel
theorem dX7_filterTold_56 : decode cX7_filterTold 56 = .ok (.bipush 114, 2) := by decide +kernel
theorem dX7_filterTold_58 : decode cX7_filterTold 58 = .ok (.if_icmp .ne 7, 3) := by decide +kernel
theorem dX7_filterTold_61 : decode cX7_filterTold 61 = .ok (.iconst 5, 1) := by decide +kernel
theorem dX7_filterTold_62 : decode cX7_filterTold 62 = .ok (.goto 15, 3) := by decide +kernel
theorem dX7_filterTold_65 : decode cX7_filterTold 65 = .ok (.iload_n 1, 1) := by decide +kernel
theorem dX7_filterTold_66 : decode cX7_filterTold 66 = .ok (.bipush 102, 2) := by decide +kernel
theorem dX7_filterTold_68 : decode cX7_filterTold 68 = .ok (.if_icmp .ne 8, 3) := by decide +kernel
theorem dX7_filterTold_71 : decode cX7_filterTold 71 = .ok (.bipush 6, 2) := by decide +kernel
theorem dX7_filterTold_73 : decode cX7_filterTold 73 = .ok (.goto 4, 3) := by decide +kernel
theorem dX7_filterTold_76 : decode cX7_filterTold 76 = .ok (.iconst (-1), 1) := by decide +kernel
theorem dX7_filterTold_77 : decode cX7_filterTold 77 = .ok (.istore_n 2, 1) := by decide +kernel
theorem dX7_filterTold_78 : decode cX7_filterTold 78 = .ok (.iload_n 2, 1) := by decide +kernel
theorem dX7_filterTold_79 : decode cX7_filterTold 79 = .ok (.iconst (-1), 1) := by decide +kernel
theorem dX7_filterTold_80 : decode cX7_filterTold 80 = .ok (.if_icmp .ne 13, 3) := by decide +kernel
theorem dX7_filterTold_83 : decode cX7_filterTold 83 = .ok (.aload_n 0, 1) := by decide +kernel
theorem dX7_filterTold_84 : decode cX7_filterTold 84 = .ok (.aload_n 0, 1) := by decide +kernel
theorem dX7_filterTold_85 : decode cX7_filterTold 85 = .ok (.getfield 331, 3) := by decide +kernel
theorem dX7_filterTold_88 : decode cX7_filterTold 88 = .ok (.invokevirtual 344, 3) := by decide +kernel
theorem dX7_filterTold_91 : decode cX7_filterTold 91 = .ok (.iconst 0, 1) := by decide +kernel
theorem dX7_filterTold_92 : decode cX7_filterTold 92 = .ok (.ireturn, 1) := by decide +kernel
theorem dX7_filterTold_93 : decode cX7_filterTold 93 = .ok (.aload_n 0, 1) := by decide +kernel
theorem dX7_filterTold_94 : decode cX7_filterTold 94 = .ok (.dup, 1) := by decide +kernel
theorem dX7_filterTold_95 : decode cX7_filterTold 95 = .ok (.getfield 331, 3) := by decide +kernel
theorem dX7_filterTold_98 : decode cX7_filterTold 98 = .ok (.iconst 1, 1) := by decide +kernel
theorem dX7_filterTold_99 : decode cX7_filterTold 99 = .ok (.iadd, 1) := by decide +kernel
theorem dX7_filterTold_100 : decode cX7_filterTold 100 = .ok (.putfield 331, 3) := by decide +kernel
theorem dX7_filterTold_103 : decode cX7_filterTold 103 = .ok (.iload_n 2, 1) := by decide +kernel
theorem dX7_filterTold_104 : decode cX7_filterTold 104 = .ok (.iconst 2, 1) := by decide +kernel
theorem dX7_filterTold_105 : decode cX7_filterTold 105 = .ok (.if_icmp .eq 13, 3) := by decide +kernel
theorem dX7_filterTold_108 : decode cX7_filterTold 108 = .ok (.iload_n 2, 1) := by decide +kernel
theorem dX7_filterTold_109 : decode cX7_filterTold 109 = .ok (.iconst 3, 1) := by decide +kernel
theorem dX7_filterTold_110 : decode cX7_filterTold 110 = .ok (.if_icmp .eq 8, 3) := by decide +kernel
theorem dX7_filterTold_113 : decode cX7_filterTold 113 = .ok (.iload_n 2, 1) := by decide +kernel
theorem dX7_filterTold_114 : decode cX7_filterTold 114 = .ok (.iconst 4, 1) := by decide +kernel
theorem dX7_filterTold_115 : decode cX7_filterTold 115 = .ok (.if_icmp .ne 10, 3) := by decide +kernel
theorem dX7_filterTold_118 : decode cX7_filterTold 118 = .ok (.aload_n 0, 1) := by decide +kernel
theorem dX7_filterTold_119 : decode cX7_filterTold 119 = .ok (.invokevirtual 347, 3) := by decide +kernel
theorem dX7_filterTold_122 : decode cX7_filterTold 122 = .ok (.goto 4, 3) := by decide +kernel
theorem dX7_filterTold_125 : decode cX7_filterTold 125 = .ok (.iconst 0, 1) := by decide +kernel
theorem dX7_filterTold_126 : decode cX7_filterTold 126 = .ok (.istore_n 3, 1) := by decide +kernel
theorem dX7_filterTold_127 : decode cX7_filterTold 127 = .ok (.iconst 0, 1) := by decide +kernel
theorem dX7_filterTold_128 : decode cX7_filterTold 128 = .ok (.istore 4, 2) := by decide +kernel
theorem dX7_filterTold_130 : decode cX7_filterTold 130 = .ok (.iload_n 2, 1) := by decide +kernel
theorem dX7_filterTold_131 : decode cX7_filterTold 131 = .ok (.iconst 2, 1) := by decide +kernel
theorem dX7_filterTold_132 : decode cX7_filterTold 132 = .ok (.if_icmp .eq 8, 3) := by decide +kernel
theorem dX7_filterTold_135 : decode cX7_filterTold 135 = .ok (.iload_n 2, 1) := by decide +kernel
theorem dX7_filterTold_136 : decode cX7_filterTold 136 = .ok (.iconst 4, 1) := by decide +kernel
theorem dX7_filterTold_137 : decode cX7_filterTold 137 = .ok (.if_icmp .ne 32, 3) := by decide +kernel
theorem dX7_filterTold_140 : decode cX7_filterTold 140 = .ok (.aload_n 0, 1) := by decide +kernel
theorem dX7_filterTold_141 : decode cX7_filterTold 141 = .ok (.invokevirtual 334, 3) := by decide +kernel
theorem dX7_filterTold_144 : decode cX7_filterTold 144 = .ok (.bipush 44, 2) := by decide +kernel
theorem dX7_filterTold_146 : decode cX7_filterTold 146 = .ok (.if_icmp .eq 13, 3) := by decide +kernel
theorem dX7_filterTold_149 : decode cX7_filterTold 149 = .ok (.aload_n 0, 1) := by decide +kernel
theorem dX7_filterTold_150 : decode cX7_filterTold 150 = .ok (.aload_n 0, 1) := by decide +kernel
theorem dX7_filterTold_151 : decode cX7_filterTold 151 = .ok (.getfield 331, 3) := by decide +kernel
theorem dX7_filterTold_154 : decode cX7_filterTold 154 = .ok (.invokevirtual 344, 3) := by decide +kernel
theorem dX7_filterTold_157 : decode cX7_filterTold 157 = .ok (.iconst 0, 1) := by decide +kernel
theorem dX7_filterTold_158 : decode cX7_filterTold 158 = .ok (.ireturn, 1) := by decide +kernel
theorem dX7_filterTold_159 : decode cX7_filterTold 159 = .ok (.aload_n 0, 1) := by decide +kernel
theorem dX7_filterTold_160 : decode cX7_filterTold 160 = .ok (.dup, 1) := by decide +kernel
theorem dX7_filterTold_161 : decode cX7_filterTold 161 = .ok (.getfield 331, 3) := by decide +kernel
theorem dX7_filterTold_164 : decode cX7_filterTold 164 = .ok (.iconst 1, 1) := by decide +kernel
theorem dX7_filterTold_165 : decode cX7_filterTold 165 = .ok (.iadd, 1) := by decide +kernel
theorem dX7_filterTold_166 : decode cX7_filterTold 166 = .ok (.putfield 331, 3) := by decide +kernel
theorem dX7_filterTold_169 : decode cX7_filterTold 169 = .ok (.iload_n 2, 1) := by decide +kernel
theorem dX7_filterTold_170 : decode cX7_filterTold 170 = .ok (.ifCond .eq 29, 3) := by decide +kernel
theorem dX7_filterTold_173 : decode cX7_filterTold 173 = .ok (.iload_n 2, 1) := by decide +kernel
theorem dX7_filterTold_174 : decode cX7_filterTold 174 = .ok (.iconst 3, 1) := by decide +kernel
theorem dX7_filterTold_175 : decode cX7_filterTold 175 = .ok (.if_icmp .eq 24, 3) := by decide +kernel
theorem dX7_filterTold_178 : decode cX7_filterTold 178 = .ok (.aload_n 0, 1) := by decide +kernel
theorem dX7_filterTold_179 : decode cX7_filterTold 179 = .ok (.invokevirtual 350, 3) := by decide +kernel
theorem dX7_filterTold_182 : decode cX7_filterTold 182 = .ok (.istore 4, 2) := by decide +kernel
theorem dX7_filterTold_184 : decode cX7_filterTold 184 = .ok (.iload 4, 2) := by decide +kernel
theorem dX7_filterTold_186 : decode cX7_filterTold 186 = .ok (.ifCond .ge 13, 3) := by decide +kernel
theorem dX7_filterTold_189 : decode cX7_filterTold 189 = .ok (.aload_n 0, 1) := by decide +kernel
theorem dX7_filterTold_190 : decode cX7_filterTold 190 = .ok (.aload_n 0, 1) := by decide +kernel
theorem dX7_filterTold_191 : decode cX7_filterTold 191 = .ok (.getfield 331, 3) := by decide +kernel
theorem dX7_filterTold_194 : decode cX7_filterTold 194 = .ok (.invokevirtual 344, 3) := by decide +kernel
theorem dX7_filterTold_197 : decode cX7_filterTold 197 = .ok (.iconst 0, 1) := by decide +kernel
theorem dX7_filterTold_198 : decode cX7_filterTold 198 = .ok (.ireturn, 1) := by decide +kernel
theorem dX7_filterTold_199 : decode cX7_filterTold 199 = .ok (.iload_n 2, 1) := by decide +kernel
theorem dX7_filterTold_200 : decode cX7_filterTold 200 = .ok (.iload_n 3, 1) := by decide +kernel
theorem dX7_filterTold_201 : decode cX7_filterTold 201 = .ok (.iload 4, 2) := by decide +kernel
theorem dX7_filterTold_203 : decode cX7_filterTold 203 = .ok (.invokestatic 162, 3) := by decide +kernel
theorem dX7_filterTold_206 : decode cX7_filterTold 206 = .ok (.ireturn, 1) := by decide +kernel
theorem dX7_textTold_0 : decode cX7_textTold 0 = .ok (.aload_n 0, 1) := by decide +kernel
theorem dX7_textTold_1 : decode cX7_textTold 1 = .ok (.iload_n 1, 1) := by decide +kernel
theorem dX7_textTold_2 : decode cX7_textTold 2 = .ok (.invokevirtual 353, 3) := by decide +kernel
theorem dX7_textTold_5 : decode cX7_textTold 5 = .ok (.istore_n 2, 1) := by decide +kernel
theorem dX7_textTold_6 : decode cX7_textTold 6 = .ok (.aload_n 0, 1) := by decide +kernel
theorem dX7_textTold_7 : decode cX7_textTold 7 = .ok (.getfield 338, 3) := by decide +kernel
theorem dX7_textTold_10 : decode cX7_textTold 10 = .ok (.ifCond .ge 31, 3) := by decide +kernel
theorem dX7_textTold_13 : decode cX7_textTold 13 = .ok (.aload_n 0, 1) := by decide +kernel
theorem dX7_textTold_14 : decode cX7_textTold 14 = .ok (.invokevirtual 334, 3) := by decide +kernel
theorem dX7_textTold_17 : decode cX7_textTold 17 = .ok (.bipush 59, 2) := by decide +kernel
theorem dX7_textTold_19 : decode cX7_textTold 19 = .ok (.if_icmp .ne 22, 3) := by decide +kernel
theorem dX7_textTold_22 : decode cX7_textTold 22 = .ok (.aload_n 0, 1) := by decide +kernel
theorem dX7_textTold_23 : decode cX7_textTold 23 = .ok (.dup, 1) := by decide +kernel
theorem dX7_textTold_24 : decode cX7_textTold 24 = .ok (.getfield 331, 3) := by decide +kernel
theorem dX7_textTold_27 : decode cX7_textTold 27 = .ok (.iconst 1, 1) := by decide +kernel
theorem dX7_textTold_28 : decode cX7_textTold 28 = .ok (.iadd, 1) := by decide +kernel
theorem dX7_textTold_29 : decode cX7_textTold 29 = .ok (.putfield 331, 3) := by decide +kernel
theorem dX7_textTold_32 : decode cX7_textTold 32 = .ok (.aload_n 0, 1) := by decide +kernel
theorem dX7_textTold_33 : decode cX7_textTold 33 = .ok (.iload_n 2, 1) := by decide +kernel
theorem dX7_textTold_34 : decode cX7_textTold 34 = .ok (.invokevirtual 353, 3) := by decide +kernel
theorem dX7_textTold_37 : decode cX7_textTold 37 = .ok (.istore_n 2, 1) := by decide +kernel
theorem dX7_textTold_38 : decode cX7_textTold 38 = .ok (.goto (-32), 3) := by decide +kernel
theorem dX7_textTold_41 : decode cX7_textTold 41 = .ok (.iload_n 2, 1) := by decide +kernel
theorem dX7_textTold_42 : decode cX7_textTold 42 = .ok (.ireturn, 1) := by decide +kernel
theorem dX7_itemTold_0 : decode cX7_itemTold 0 = .ok (.aload_n 0, 1) := by decide +kernel
theorem dX7_itemTold_1 : decode cX7_itemTold 1 = .ok (.iconst 2, 1) := by decide +kernel
theorem dX7_itemTold_2 : decode cX7_itemTold 2 = .ok (.iconst 4, 1) := by decide +kernel
theorem dX7_itemTold_3 : decode cX7_itemTold 3 = .ok (.invokevirtual 341, 3) := by decide +kernel
theorem dX7_itemTold_6 : decode cX7_itemTold 6 = .ok (.ifCond .eq 11, 3) := by decide +kernel
theorem dX7_itemTold_9 : decode cX7_itemTold 9 = .ok (.aload_n 0, 1) := by decide +kernel
theorem dX7_itemTold_10 : decode cX7_itemTold 10 = .ok (.getfield 356, 3) := by decide +kernel
theorem dX7_itemTold_13 : decode cX7_itemTold 13 = .ok (.iconst 3, 1) := by decide +kernel
theorem dX7_itemTold_14 : decode cX7_itemTold 14 = .ok (.if_icmp .ne 32, 3) := by decide +kernel
theorem dX7_itemTold_17 : decode cX7_itemTold 17 = .ok (.aload_n 0, 1) := by decide +kernel
theorem dX7_itemTold_18 : decode cX7_itemTold 18 = .ok (.invokevirtual 359, 3) := by decide +kernel
theorem dX7_itemTold_21 : decode cX7_itemTold 21 = .ok (.istore_n 2, 1) := by decide +kernel
theorem dX7_itemTold_22 : decode cX7_itemTold 22 = .ok (.iload_n 1, 1) := by decide +kernel
theorem dX7_itemTold_23 : decode cX7_itemTold 23 = .ok (.bipush 8, 2) := by decide +kernel
theorem dX7_itemTold_25 : decode cX7_itemTold 25 = .ok (.if_icmp .ge 17, 3) := by decide +kernel
theorem dX7_itemTold_28 : decode cX7_itemTold 28 = .ok (.aload_n 0, 1) := by decide +kernel
theorem dX7_itemTold_29 : decode cX7_itemTold 29 = .ok (.getfield 338, 3) := by decide +kernel
theorem dX7_itemTold_32 : decode cX7_itemTold 32 = .ok (.ifCond .ge 10, 3) := by decide +kernel
theorem dX7_itemTold_35 : decode cX7_itemTold 35 = .ok (.aload_n 0, 1) := by decide +kernel
theorem dX7_itemTold_36 : decode cX7_itemTold 36 = .ok (.getfield 64, 3) := by decide +kernel
theorem dX7_itemTold_39 : decode cX7_itemTold 39 = .ok (.iload_n 1, 1) := by decide +kernel
theorem dX7_itemTold_40 : decode cX7_itemTold 40 = .ok (.iload_n 2, 1) := by decide +kernel
theorem dX7_itemTold_41 : decode cX7_itemTold 41 = .ok (.iastore, 1) := by decide +kernel
theorem dX7_itemTold_42 : decode cX7_itemTold 42 = .ok (.iload_n 1, 1) := by decide +kernel
theorem dX7_itemTold_43 : decode cX7_itemTold 43 = .ok (.iconst 1, 1) := by decide +kernel
theorem dX7_itemTold_44 : decode cX7_itemTold 44 = .ok (.iadd, 1) := by decide +kernel
theorem dX7_itemTold_45 : decode cX7_itemTold 45 = .ok (.ireturn, 1) := by decide +kernel
theorem dX7_itemTold_46 : decode cX7_itemTold 46 = .ok (.aload_n 0, 1) := by decide +kernel
theorem dX7_itemTold_47 : decode cX7_itemTold 47 = .ok (.getfield 58, 3) := by decide +kernel
theorem dX7_itemTold_50 : decode cX7_itemTold 50 = .ok (.aload_n 0, 1) := by decide +kernel
theorem dX7_itemTold_51 : decode cX7_itemTold 51 = .ok (.getfield 331, 3) := by decide +kernel
theorem dX7_itemTold_54 : decode cX7_itemTold 54 = .ok (.iaload, 1) := by decide +kernel
theorem dX7_itemTold_55 : decode cX7_itemTold 55 = .ok (.bipush 48, 2) := by decide +kernel
theorem dX7_itemTold_57 : decode cX7_itemTold 57 = .ok (.isub, 1) := by decide +kernel
theorem dX7_itemTold_58 : decode cX7_itemTold 58 = .ok (.istore_n 2, 1) := by decide +kernel
theorem dX7_itemTold_59 : decode cX7_itemTold 59 = .ok (.aload_n 0, 1) := by decide +kernel
theorem dX7_itemTold_60 : decode cX7_itemTold 60 = .ok (.dup, 1) := by decide +kernel
theorem dX7_itemTold_61 : decode cX7_itemTold 61 = .ok (.getfield 331, 3) := by decide +kernel
theorem dX7_itemTold_64 : decode cX7_itemTold 64 = .ok (.iconst 1, 1) := by decide +kernel
theorem dX7_itemTold_65 : decode cX7_itemTold 65 = .ok (.iadd, 1) := by decide +kernel
theorem dX7_itemTold_66 : decode cX7_itemTold 66 = .ok (.putfield 331, 3) := by decide +kernel
theorem dX7_itemTold_69 : decode cX7_itemTold 69 = .ok (.aload_n 0, 1) := by decide +kernel
theorem dX7_itemTold_70 : decode cX7_itemTold 70 = .ok (.invokevirtual 334, 3) := by decide +kernel
theorem dX7_itemTold_73 : decode cX7_itemTold 73 = .ok (.bipush 40, 2) := by decide +kernel
theorem dX7_itemTold_75 : decode cX7_itemTold 75 = .ok (.if_icmp .eq 13, 3) := by decide +kernel
theorem dX7_itemTold_78 : decode cX7_itemTold 78 = .ok (.aload_n 0, 1) := by decide +kernel
theorem dX7_itemTold_79 : decode cX7_itemTold 79 = .ok (.aload_n 0, 1) := by decide +kernel
theorem dX7_itemTold_80 : decode cX7_itemTold 80 = .ok (.getfield 331, 3) := by decide +kernel
theorem dX7_itemTold_83 : decode cX7_itemTold 83 = .ok (.invokevirtual 344, 3) := by decide +kernel
theorem dX7_itemTold_86 : decode cX7_itemTold 86 = .ok (.iload_n 1, 1) := by decide +kernel
theorem dX7_itemTold_87 : decode cX7_itemTold 87 = .ok (.ireturn, 1) := by decide +kernel
theorem dX7_itemTold_88 : decode cX7_itemTold 88 = .ok (.aload_n 0, 1) := by decide +kernel
theorem dX7_itemTold_89 : decode cX7_itemTold 89 = .ok (.getfield 61, 3) := by decide +kernel
theorem dX7_itemTold_92 : decode cX7_itemTold 92 = .ok (.aload_n 0, 1) := by decide +kernel
theorem dX7_itemTold_93 : decode cX7_itemTold 93 = .ok (.getfield 356, 3) := by decide +kernel
theorem dX7_itemTold_96 : decode cX7_itemTold 96 = .ok (.aload_n 0, 1) := by decide +kernel
theorem dX7_itemTold_97 : decode cX7_itemTold 97 = .ok (.getfield 331, 3) := by decide +kernel
theorem dX7_itemTold_100 : decode cX7_itemTold 100 = .ok (.iastore, 1) := by decide +kernel
theorem dX7_itemTold_101 : decode cX7_itemTold 101 = .ok (.aload_n 0, 1) := by decide +kernel
theorem dX7_itemTold_102 : decode cX7_itemTold 102 = .ok (.dup, 1) := by decide +kernel
theorem dX7_itemTold_103 : decode cX7_itemTold 103 = .ok (.getfield 356, 3) := by decide +kernel
theorem dX7_itemTold_106 : decode cX7_itemTold 106 = .ok (.iconst 1, 1) := by decide +kernel
theorem dX7_itemTold_107 : decode cX7_itemTold 107 = .ok (.iadd, 1) := by decide +kernel
theorem dX7_itemTold_108 : decode cX7_itemTold 108 = .ok (.putfield 356, 3) := by decide +kernel
theorem dX7_itemTold_111 : decode cX7_itemTold 111 = .ok (.aload_n 0, 1) := by decide +kernel
theorem dX7_itemTold_112 : decode cX7_itemTold 112 = .ok (.dup, 1) := by decide +kernel
theorem dX7_itemTold_113 : decode cX7_itemTold 113 = .ok (.getfield 331, 3) := by decide +kernel
theorem dX7_itemTold_116 : decode cX7_itemTold 116 = .ok (.iconst 1, 1) := by decide +kernel
theorem dX7_itemTold_117 : decode cX7_itemTold 117 = .ok (.iadd, 1) := by decide +kernel
theorem dX7_itemTold_118 : decode cX7_itemTold 118 = .ok (.putfield 331, 3) := by decide +kernel
theorem dX7_itemTold_121 : decode cX7_itemTold 121 = .ok (.aload_n 0, 1) := by decide +kernel
theorem dX7_itemTold_122 : decode cX7_itemTold 122 = .ok (.iload_n 1, 1) := by decide +kernel
theorem dX7_itemTold_123 : decode cX7_itemTold 123 = .ok (.invokevirtual 362, 3) := by decide +kernel
theorem dX7_itemTold_126 : decode cX7_itemTold 126 = .ok (.istore_n 3, 1) := by decide +kernel
theorem dX7_itemTold_127 : decode cX7_itemTold 127 = .ok (.aload_n 0, 1) := by decide +kernel
theorem dX7_itemTold_128 : decode cX7_itemTold 128 = .ok (.getfield 338, 3) := by decide +kernel
theorem dX7_itemTold_131 : decode cX7_itemTold 131 = .ok (.ifCond .ge 20, 3) := by decide +kernel
theorem dX7_itemTold_134 : decode cX7_itemTold 134 = .ok (.aload_n 0, 1) := by decide +kernel
theorem dX7_itemTold_135 : decode cX7_itemTold 135 = .ok (.invokevirtual 334, 3) := by decide +kernel
theorem dX7_itemTold_138 : decode cX7_itemTold 138 = .ok (.bipush 41, 2) := by decide +kernel
theorem dX7_itemTold_140 : decode cX7_itemTold 140 = .ok (.if_icmp .eq 11, 3) := by decide +kernel
theorem dX7_itemTold_143 : decode cX7_itemTold 143 = .ok (.aload_n 0, 1) := by decide +kernel
theorem dX7_itemTold_144 : decode cX7_itemTold 144 = .ok (.aload_n 0, 1) := by decide +kernel
theorem dX7_itemTold_145 : decode cX7_itemTold 145 = .ok (.getfield 331, 3) := by decide +kernel
theorem dX7_itemTold_148 : decode cX7_itemTold 148 = .ok (.invokevirtual 344, 3) := by decide +kernel
theorem dX7_itemTold_151 : decode cX7_itemTold 151 = .ok (.aload_n 0, 1) := by decide +kernel
theorem dX7_itemTold_152 : decode cX7_itemTold 152 = .ok (.getfield 338, 3) := by decide +kernel
theorem dX7_itemTold_155 : decode cX7_itemTold 155 = .ok (.ifCond .lt 5, 3) := by decide +kernel
theorem dX7_itemTold_158 : decode cX7_itemTold 158 = .ok (.iload_n 1, 1) := by decide +kernel
theorem dX7_itemTold_159 : decode cX7_itemTold 159 = .ok (.ireturn, 1) := by decide +kernel
theorem dX7_itemTold_160 : decode cX7_itemTold 160 = .ok (.aload_n 0, 1) := by decide +kernel
theorem dX7_itemTold_161 : decode cX7_itemTold 161 = .ok (.dup, 1) := by decide +kernel
theorem dX7_itemTold_162 : decode cX7_itemTold 162 = .ok (.getfield 331, 3) := by decide +kernel
theorem dX7_itemTold_165 : decode cX7_itemTold 165 = .ok (.iconst 1, 1) := by decide +kernel
theorem dX7_itemTold_166 : decode cX7_itemTold 166 = .ok (.iadd, 1) := by decide +kernel
theorem dX7_itemTold_167 : decode cX7_itemTold 167 = .ok (.putfield 331, 3) := by decide +kernel
theorem dX7_itemTold_170 : decode cX7_itemTold 170 = .ok (.aload_n 0, 1) := by decide +kernel
theorem dX7_itemTold_171 : decode cX7_itemTold 171 = .ok (.dup, 1) := by decide +kernel
theorem dX7_itemTold_172 : decode cX7_itemTold 172 = .ok (.getfield 356, 3) := by decide +kernel
theorem dX7_itemTold_175 : decode cX7_itemTold 175 = .ok (.iconst 1, 1) := by decide +kernel
theorem dX7_itemTold_176 : decode cX7_itemTold 176 = .ok (.isub, 1) := by decide +kernel
theorem dX7_itemTold_177 : decode cX7_itemTold 177 = .ok (.putfield 356, 3) := by decide +kernel
theorem dX7_itemTold_180 : decode cX7_itemTold 180 = .ok (.iload_n 3, 1) := by decide +kernel
theorem dX7_itemTold_181 : decode cX7_itemTold 181 = .ok (.iload_n 1, 1) := by decide +kernel
theorem dX7_itemTold_182 : decode cX7_itemTold 182 = .ok (.isub, 1) := by decide +kernel
theorem dX7_itemTold_183 : decode cX7_itemTold 183 = .ok (.istore 4, 2) := by decide +kernel
theorem dX7_itemTold_185 : decode cX7_itemTold 185 = .ok (.iload_n 3, 1) := by decide +kernel
theorem dX7_itemTold_186 : decode cX7_itemTold 186 = .ok (.istore 5, 2) := by decide +kernel
theorem dX7_itemTold_188 : decode cX7_itemTold 188 = .ok (.iload 5, 2) := by decide +kernel
theorem dX7_itemTold_190 : decode cX7_itemTold 190 = .ok (.iload_n 1, 1) := by decide +kernel
theorem dX7_itemTold_191 : decode cX7_itemTold 191 = .ok (.iload 4, 2) := by decide +kernel
theorem dX7_itemTold_193 : decode cX7_itemTold 193 = .ok (.iload_n 2, 1) := by decide +kernel
theorem dX7_itemTold_194 : decode cX7_itemTold 194 = .ok (.imul, 1) := by decide +kernel
theorem dX7_itemTold_195 : decode cX7_itemTold 195 = .ok (.iadd, 1) := by decide +kernel
theorem dX7_itemTold_196 : decode cX7_itemTold 196 = .ok (.if_icmp .ge 33, 3) := by decide +kernel
theorem dX7_itemTold_199 : decode cX7_itemTold 199 = .ok (.iload 5, 2) := by decide +kernel
theorem dX7_itemTold_201 : decode cX7_itemTold 201 = .ok (.bipush 8, 2) := by decide +kernel
theorem dX7_itemTold_203 : decode cX7_itemTold 203 = .ok (.if_icmp .ge 26, 3) := by decide +kernel
theorem dX7_itemTold_206 : decode cX7_itemTold 206 = .ok (.aload_n 0, 1) := by decide +kernel
theorem dX7_itemTold_207 : decode cX7_itemTold 207 = .ok (.getfield 64, 3) := by decide +kernel
theorem dX7_itemTold_210 : decode cX7_itemTold 210 = .ok (.iload 5, 2) := by decide +kernel
theorem dX7_itemTold_212 : decode cX7_itemTold 212 = .ok (.aload_n 0, 1) := by decide +kernel
theorem dX7_itemTold_213 : decode cX7_itemTold 213 = .ok (.getfield 64, 3) := by decide +kernel
theorem dX7_itemTold_216 : decode cX7_itemTold 216 = .ok (.iload 5, 2) := by decide +kernel
theorem dX7_itemTold_218 : decode cX7_itemTold 218 = .ok (.iload 4, 2) := by decide +kernel
theorem dX7_itemTold_220 : decode cX7_itemTold 220 = .ok (.isub, 1) := by decide +kernel
theorem dX7_itemTold_221 : decode cX7_itemTold 221 = .ok (.iaload, 1) := by decide +kernel
theorem dX7_itemTold_222 : decode cX7_itemTold 222 = .ok (.iastore, 1) := by decide +kernel
theorem dX7_itemTold_223 : decode cX7_itemTold 223 = .ok (.iinc 5 1, 3) := by decide +kernel
theorem dX7_itemTold_226 : decode cX7_itemTold 226 = .ok (.goto (-38), 3) := by decide +kernel
theorem dX7_itemTold_229 : decode cX7_itemTold 229 = .ok (.iload_n 1, 1) := by decide +kernel
theorem dX7_itemTold_230 : decode cX7_itemTold 230 = .ok (.iload 4, 2) := by decide +kernel
theorem dX7_itemTold_232 : decode cX7_itemTold 232 = .ok (.iload_n 2, 1) := by decide +kernel
theorem dX7_itemTold_233 : decode cX7_itemTold 233 = .ok (.imul, 1) := by decide +kernel
theorem dX7_itemTold_234 : decode cX7_itemTold 234 = .ok (.iadd, 1) := by decide +kernel
theorem dX7_itemTold_235 : decode cX7_itemTold 235 = .ok (.ireturn, 1) := by decide +kernel
theorem dX7_read_0 : decode cX7_read 0 = .ok (.aload_n 0, 1) := by decide +kernel
theorem dX7_read_1 : decode cX7_read 1 = .ok (.iconst 0, 1) := by decide +kernel
theorem dX7_read_2 : decode cX7_read 2 = .ok (.putfield 331, 3) := by decide +kernel
theorem dX7_read_5 : decode cX7_read 5 = .ok (.aload_n 0, 1) := by decide +kernel
theorem dX7_read_6 : decode cX7_read 6 = .ok (.iconst 0, 1) := by decide +kernel
theorem dX7_read_7 : decode cX7_read 7 = .ok (.putfield 356, 3) := by decide +kernel
theorem dX7_read_10 : decode cX7_read 10 = .ok (.aload_n 0, 1) := by decide +kernel
theorem dX7_read_11 : decode cX7_read 11 = .ok (.iconst (-1), 1) := by decide +kernel
theorem dX7_read_12 : decode cX7_read 12 = .ok (.putfield 338, 3) := by decide +kernel
theorem dX7_read_15 : decode cX7_read 15 = .ok (.aload_n 0, 1) := by decide +kernel
theorem dX7_read_16 : decode cX7_read 16 = .ok (.iconst 0, 1) := by decide +kernel
theorem dX7_read_17 : decode cX7_read 17 = .ok (.invokevirtual 362, 3) := by decide +kernel
theorem dX7_read_20 : decode cX7_read 20 = .ok (.istore_n 1, 1) := by decide +kernel
theorem dX7_read_21 : decode cX7_read 21 = .ok (.aload_n 0, 1) := by decide +kernel
theorem dX7_read_22 : decode cX7_read 22 = .ok (.getfield 338, 3) := by decide +kernel
theorem dX7_read_25 : decode cX7_read 25 = .ok (.ifCond .ge 22, 3) := by decide +kernel
theorem dX7_read_28 : decode cX7_read 28 = .ok (.aload_n 0, 1) := by decide +kernel
theorem dX7_read_29 : decode cX7_read 29 = .ok (.getfield 331, 3) := by decide +kernel
theorem dX7_read_32 : decode cX7_read 32 = .ok (.aload_n 0, 1) := by decide +kernel
theorem dX7_read_33 : decode cX7_read 33 = .ok (.getfield 328, 3) := by decide +kernel
theorem dX7_read_36 : decode cX7_read 36 = .ok (.if_icmp .ge 11, 3) := by decide +kernel
theorem dX7_read_39 : decode cX7_read 39 = .ok (.aload_n 0, 1) := by decide +kernel
theorem dX7_read_40 : decode cX7_read 40 = .ok (.aload_n 0, 1) := by decide +kernel
theorem dX7_read_41 : decode cX7_read 41 = .ok (.getfield 331, 3) := by decide +kernel
theorem dX7_read_44 : decode cX7_read 44 = .ok (.invokevirtual 344, 3) := by decide +kernel
theorem dX7_read_47 : decode cX7_read 47 = .ok (.aload_n 0, 1) := by decide +kernel
theorem dX7_read_48 : decode cX7_read 48 = .ok (.iconst 0, 1) := by decide +kernel
theorem dX7_read_49 : decode cX7_read 49 = .ok (.putfield 328, 3) := by decide +kernel
theorem dX7_read_52 : decode cX7_read 52 = .ok (.aload_n 0, 1) := by decide +kernel
theorem dX7_read_53 : decode cX7_read 53 = .ok (.getfield 338, 3) := by decide +kernel
theorem dX7_read_56 : decode cX7_read 56 = .ok (.ifCond .lt 52, 3) := by decide +kernel
theorem dX7_read_59 : decode cX7_read 59 = .ok (.aload_n 0, 1) := by decide +kernel
theorem dX7_read_60 : decode cX7_read 60 = .ok (.iconst 0, 1) := by decide +kernel
theorem dX7_read_61 : decode cX7_read 61 = .ok (.putfield 217, 3) := by decide +kernel
theorem dX7_read_64 : decode cX7_read 64 = .ok (.iconst 0, 1) := by decide +kernel
theorem dX7_read_65 : decode cX7_read 65 = .ok (.istore_n 2, 1) := by decide +kernel
theorem dX7_read_66 : decode cX7_read 66 = .ok (.iload_n 2, 1) := by decide +kernel
theorem dX7_read_67 : decode cX7_read 67 = .ok (.aload_n 0, 1) := by decide +kernel
theorem dX7_read_68 : decode cX7_read 68 = .ok (.getfield 356, 3) := by decide +kernel
theorem dX7_read_71 : decode cX7_read 71 = .ok (.if_icmp .ge 20, 3) := by decide +kernel
theorem dX7_read_74 : decode cX7_read 74 = .ok (.aload_n 0, 1) := by decide +kernel
theorem dX7_read_75 : decode cX7_read 75 = .ok (.iconst 2, 1) := by decide +kernel
theorem dX7_read_76 : decode cX7_read 76 = .ok (.aload_n 0, 1) := by decide +kernel
theorem dX7_read_77 : decode cX7_read 77 = .ok (.getfield 61, 3) := by decide +kernel
theorem dX7_read_80 : decode cX7_read 80 = .ok (.iload_n 2, 1) := by decide +kernel
theorem dX7_read_81 : decode cX7_read 81 = .ok (.iaload, 1) := by decide +kernel
theorem dX7_read_82 : decode cX7_read 82 = .ok (.invokevirtual 220, 3) := by decide +kernel
theorem dX7_read_85 : decode cX7_read 85 = .ok (.iinc 2 1, 3) := by decide +kernel
theorem dX7_read_88 : decode cX7_read 88 = .ok (.goto (-22), 3) := by decide +kernel
theorem dX7_read_91 : decode cX7_read 91 = .ok (.aload_n 0, 1) := by decide +kernel
theorem dX7_read_92 : decode cX7_read 92 = .ok (.iconst 1, 1) := by decide +kernel
theorem dX7_read_93 : decode cX7_read 93 = .ok (.aload_n 0, 1) := by decide +kernel
theorem dX7_read_94 : decode cX7_read 94 = .ok (.getfield 338, 3) := by decide +kernel
theorem dX7_read_97 : decode cX7_read 97 = .ok (.invokevirtual 220, 3) := by decide +kernel
theorem dX7_read_100 : decode cX7_read 100 = .ok (.bipush (-100), 2) := by decide +kernel
theorem dX7_read_102 : decode cX7_read 102 = .ok (.aload_n 0, 1) := by decide +kernel
theorem dX7_read_103 : decode cX7_read 103 = .ok (.getfield 338, 3) := by decide +kernel
theorem dX7_read_106 : decode cX7_read 106 = .ok (.isub, 1) := by decide +kernel
theorem dX7_read_107 : decode cX7_read 107 = .ok (.ireturn, 1) := by decide +kernel
theorem dX7_read_108 : decode cX7_read 108 = .ok (.iload_n 1, 1) := by decide +kernel
theorem dX7_read_109 : decode cX7_read 109 = .ok (.bipush 8, 2) := by decide +kernel
theorem dX7_read_111 : decode cX7_read 111 = .ok (.if_icmp .le 17, 3) := by decide +kernel
theorem dX7_read_114 : decode cX7_read 114 = .ok (.aload_n 0, 1) := by decide +kernel
theorem dX7_read_115 : decode cX7_read 115 = .ok (.iconst 0, 1) := by decide +kernel
theorem dX7_read_116 : decode cX7_read 116 = .ok (.putfield 217, 3) := by decide +kernel
theorem dX7_read_119 : decode cX7_read 119 = .ok (.aload_n 0, 1) := by decide +kernel
theorem dX7_read_120 : decode cX7_read 120 = .ok (.iconst 3, 1) := by decide +kernel
theorem dX7_read_121 : decode cX7_read 121 = .ok (.iload_n 1, 1) := by decide +kernel
theorem dX7_read_122 : decode cX7_read 122 = .ok (.invokevirtual 220, 3) := by decide +kernel
theorem dX7_read_125 : decode cX7_read 125 = .ok (.bipush (-4), 2) := by decide +kernel
theorem dX7_read_127 : decode cX7_read 127 = .ok (.ireturn, 1) := by decide +kernel
theorem dX7_read_128 : decode cX7_read 128 = .ok (.aload_n 0, 1) := by decide +kernel
theorem dX7_read_129 : decode cX7_read 129 = .ok (.getfield 64, 3) := by decide +kernel
theorem dX7_read_132 : decode cX7_read 132 = .ok (.iconst 0, 1) := by decide +kernel
theorem dX7_read_133 : decode cX7_read 133 = .ok (.aload_n 0, 1) := by decide +kernel
theorem dX7_read_134 : decode cX7_read 134 = .ok (.getfield 17, 3) := by decide +kernel
theorem dX7_read_137 : decode cX7_read 137 = .ok (.iconst 0, 1) := by decide +kernel
theorem dX7_read_138 : decode cX7_read 138 = .ok (.iload_n 1, 1) := by decide +kernel
theorem dX7_read_139 : decode cX7_read 139 = .ok (.invokestatic 140, 3) := by decide +kernel
theorem dX7_read_142 : decode cX7_read 142 = .ok (.aload_n 0, 1) := by decide +kernel
theorem dX7_read_143 : decode cX7_read 143 = .ok (.iload_n 1, 1) := by decide +kernel
theorem dX7_read_144 : decode cX7_read 144 = .ok (.putfield 91, 3) := by decide +kernel
theorem dX7_read_147 : decode cX7_read 147 = .ok (.iload_n 1, 1) := by decide +kernel
theorem dX7_read_148 : decode cX7_read 148 = .ok (.ireturn, 1) := by decide +kernel
theorem dX7_why_0 : decode cX7_why 0 = .ok (.iload_n 1, 1) := by decide +kernel
theorem dX7_why_1 : decode cX7_why 1 = .ok (.ifCond .lt 13, 3) := by decide +kernel
theorem dX7_why_4 : decode cX7_why 4 = .ok (.iload_n 2, 1) := by decide +kernel
theorem dX7_why_5 : decode cX7_why 5 = .ok (.i2l, 1) := by decide +kernel
theorem dX7_why_6 : decode cX7_why 6 = .ok (.lconst 0, 1) := by decide +kernel
theorem dX7_why_7 : decode cX7_why 7 = .ok (.lconst 1, 1) := by decide +kernel
theorem dX7_why_8 : decode cX7_why 8 = .ok (.invokestatic 95, 3) := by decide +kernel
theorem dX7_why_11 : decode cX7_why 11 = .ok (.ifCond .ne 5, 3) := by decide +kernel
theorem dX7_why_14 : decode cX7_why 14 = .ok (.iconst (-1), 1) := by decide +kernel
theorem dX7_why_15 : decode cX7_why 15 = .ok (.ireturn, 1) := by decide +kernel
theorem dX7_why_16 : decode cX7_why 16 = .ok (.iload_n 1, 1) := by decide +kernel
theorem dX7_why_17 : decode cX7_why 17 = .ok (.aload_n 0, 1) := by decide +kernel
theorem dX7_why_18 : decode cX7_why 18 = .ok (.getfield 217, 3) := by decide +kernel
theorem dX7_why_21 : decode cX7_why 21 = .ok (.if_icmp .lt 6, 3) := by decide +kernel
theorem dX7_why_24 : decode cX7_why 24 = .ok (.bipush (-5), 2) := by decide +kernel
theorem dX7_why_26 : decode cX7_why 26 = .ok (.ireturn, 1) := by decide +kernel
theorem dX7_why_27 : decode cX7_why 27 = .ok (.iload_n 2, 1) := by decide +kernel
theorem dX7_why_28 : decode cX7_why 28 = .ok (.ifCond .ne 12, 3) := by decide +kernel
theorem dX7_why_31 : decode cX7_why 31 = .ok (.aload_n 0, 1) := by decide +kernel
theorem dX7_why_32 : decode cX7_why 32 = .ok (.getfield 67, 3) := by decide +kernel
theorem dX7_why_35 : decode cX7_why 35 = .ok (.iload_n 1, 1) := by decide +kernel
theorem dX7_why_36 : decode cX7_why 36 = .ok (.iaload, 1) := by decide +kernel
theorem dX7_why_37 : decode cX7_why 37 = .ok (.goto 9, 3) := by decide +kernel
theorem dX7_why_40 : decode cX7_why 40 = .ok (.aload_n 0, 1) := by decide +kernel
theorem dX7_why_41 : decode cX7_why 41 = .ok (.getfield 70, 3) := by decide +kernel
theorem dX7_why_44 : decode cX7_why 44 = .ok (.iload_n 1, 1) := by decide +kernel
theorem dX7_why_45 : decode cX7_why 45 = .ok (.iaload, 1) := by decide +kernel
theorem dX7_why_46 : decode cX7_why 46 = .ok (.ireturn, 1) := by decide +kernel
theorem dX7_spells_0 : decode cX7_spells 0 = .ok (.aload_n 0, 1) := by decide +kernel
theorem dX7_spells_1 : decode cX7_spells 1 = .ok (.getfield 73, 3) := by decide +kernel
theorem dX7_spells_4 : decode cX7_spells 4 = .ok (.aload_n 0, 1) := by decide +kernel
theorem dX7_spells_5 : decode cX7_spells 5 = .ok (.getfield 365, 3) := by decide +kernel
theorem dX7_spells_8 : decode cX7_spells 8 = .ok (.iload_n 1, 1) := by decide +kernel
theorem dX7_spells_9 : decode cX7_spells 9 = .ok (.iastore, 1) := by decide +kernel
theorem dX7_spells_10 : decode cX7_spells 10 = .ok (.aload_n 0, 1) := by decide +kernel
theorem dX7_spells_11 : decode cX7_spells 11 = .ok (.dup, 1) := by decide +kernel
theorem dX7_spells_12 : decode cX7_spells 12 = .ok (.getfield 365, 3) := by decide +kernel
theorem dX7_spells_15 : decode cX7_spells 15 = .ok (.iconst 1, 1) := by decide +kernel
theorem dX7_spells_16 : decode cX7_spells 16 = .ok (.iadd, 1) := by decide +kernel
theorem dX7_spells_17 : decode cX7_spells 17 = .ok (.putfield 365, 3) := by decide +kernel
theorem dX7_spells_20 : decode cX7_spells 20 = .ok (.return_, 1) := by decide +kernel
theorem dX7_spellsNumber_0 : decode cX7_spellsNumber 0 = .ok (.iload_n 1, 1) := by decide +kernel
theorem dX7_spellsNumber_1 : decode cX7_spellsNumber 1 = .ok (.bipush 10, 2) := by decide +kernel
theorem dX7_spellsNumber_3 : decode cX7_spellsNumber 3 = .ok (.if_icmp .lt 14, 3) := by decide +kernel
theorem dX7_spellsNumber_6 : decode cX7_spellsNumber 6 = .ok (.aload_n 0, 1) := by decide +kernel
theorem dX7_spellsNumber_7 : decode cX7_spellsNumber 7 = .ok (.bipush 48, 2) := by decide +kernel
theorem dX7_spellsNumber_9 : decode cX7_spellsNumber 9 = .ok (.iload_n 1, 1) := by decide +kernel
theorem dX7_spellsNumber_10 : decode cX7_spellsNumber 10 = .ok (.bipush 10, 2) := by decide +kernel
theorem dX7_spellsNumber_12 : decode cX7_spellsNumber 12 = .ok (.idiv, 1) := by decide +kernel
theorem dX7_spellsNumber_13 : decode cX7_spellsNumber 13 = .ok (.iadd, 1) := by decide +kernel
theorem dX7_spellsNumber_14 : decode cX7_spellsNumber 14 = .ok (.invokevirtual 368, 3) := by decide +kernel
theorem dX7_spellsNumber_17 : decode cX7_spellsNumber 17 = .ok (.aload_n 0, 1) := by decide +kernel
theorem dX7_spellsNumber_18 : decode cX7_spellsNumber 18 = .ok (.bipush 48, 2) := by decide +kernel
theorem dX7_spellsNumber_20 : decode cX7_spellsNumber 20 = .ok (.iload_n 1, 1) := by decide +kernel
theorem dX7_spellsNumber_21 : decode cX7_spellsNumber 21 = .ok (.bipush 10, 2) := by decide +kernel
theorem dX7_spellsNumber_23 : decode cX7_spellsNumber 23 = .ok (.irem, 1) := by decide +kernel
theorem dX7_spellsNumber_24 : decode cX7_spellsNumber 24 = .ok (.iadd, 1) := by decide +kernel
theorem dX7_spellsNumber_25 : decode cX7_spellsNumber 25 = .ok (.invokevirtual 368, 3) := by decide +kernel
theorem dX7_spellsNumber_28 : decode cX7_spellsNumber 28 = .ok (.return_, 1) := by decide +kernel
theorem dX7_letterOf_0 : decode cX7_letterOf 0 = .ok (.iload_n 0, 1) := by decide +kernel
theorem dX7_letterOf_1 : decode cX7_letterOf 1 = .ok (.tableswitch 57 0 5 #[39, 42, 45, 48, 51, 54], 39) := by decide +kernel
theorem dX7_letterOf_40 : decode cX7_letterOf 40 = .ok (.bipush 103, 2) := by decide +kernel
theorem dX7_letterOf_42 : decode cX7_letterOf 42 = .ok (.ireturn, 1) := by decide +kernel
theorem dX7_letterOf_43 : decode cX7_letterOf 43 = .ok (.bipush 121, 2) := by decide +kernel
theorem dX7_letterOf_45 : decode cX7_letterOf 45 = .ok (.ireturn, 1) := by decide +kernel
theorem dX7_letterOf_46 : decode cX7_letterOf 46 = .ok (.bipush 115, 2) := by decide +kernel
theorem dX7_letterOf_48 : decode cX7_letterOf 48 = .ok (.ireturn, 1) := by decide +kernel
theorem dX7_letterOf_49 : decode cX7_letterOf 49 = .ok (.bipush 112, 2) := by decide +kernel
theorem dX7_letterOf_51 : decode cX7_letterOf 51 = .ok (.ireturn, 1) := by decide +kernel
theorem dX7_letterOf_52 : decode cX7_letterOf 52 = .ok (.bipush 119, 2) := by decide +kernel
theorem dX7_letterOf_54 : decode cX7_letterOf 54 = .ok (.ireturn, 1) := by decide +kernel
theorem dX7_letterOf_55 : decode cX7_letterOf 55 = .ok (.bipush 114, 2) := by decide +kernel
theorem dX7_letterOf_57 : decode cX7_letterOf 57 = .ok (.ireturn, 1) := by decide +kernel
theorem dX7_letterOf_58 : decode cX7_letterOf 58 = .ok (.bipush 102, 2) := by decide +kernel
theorem dX7_letterOf_60 : decode cX7_letterOf 60 = .ok (.ireturn, 1) := by decide +kernel
theorem dX7_spellsAll_0 : decode cX7_spellsAll 0 = .ok (.aload_n 0, 1) := by decide +kernel
theorem dX7_spellsAll_1 : decode cX7_spellsAll 1 = .ok (.iconst 0, 1) := by decide +kernel
theorem dX7_spellsAll_2 : decode cX7_spellsAll 2 = .ok (.putfield 365, 3) := by decide +kernel
theorem dX7_spellsAll_5 : decode cX7_spellsAll 5 = .ok (.iconst 0, 1) := by decide +kernel
theorem dX7_spellsAll_6 : decode cX7_spellsAll 6 = .ok (.istore_n 1, 1) := by decide +kernel
theorem dX7_spellsAll_7 : decode cX7_spellsAll 7 = .ok (.iload_n 1, 1) := by decide +kernel
theorem dX7_spellsAll_8 : decode cX7_spellsAll 8 = .ok (.aload_n 0, 1) := by decide +kernel
theorem dX7_spellsAll_9 : decode cX7_spellsAll 9 = .ok (.getfield 91, 3) := by decide +kernel
theorem dX7_spellsAll_12 : decode cX7_spellsAll 12 = .ok (.if_icmp .ge 103, 3) := by decide +kernel
theorem dX7_spellsAll_15 : decode cX7_spellsAll 15 = .ok (.aload_n 0, 1) := by decide +kernel
theorem dX7_spellsAll_16 : decode cX7_spellsAll 16 = .ok (.getfield 17, 3) := by decide +kernel
theorem dX7_spellsAll_19 : decode cX7_spellsAll 19 = .ok (.iload_n 1, 1) := by decide +kernel
theorem dX7_spellsAll_20 : decode cX7_spellsAll 20 = .ok (.iaload, 1) := by decide +kernel
theorem dX7_spellsAll_21 : decode cX7_spellsAll 21 = .ok (.invokestatic 101, 3) := by decide +kernel
theorem dX7_spellsAll_24 : decode cX7_spellsAll 24 = .ok (.istore_n 2, 1) := by decide +kernel
theorem dX7_spellsAll_25 : decode cX7_spellsAll 25 = .ok (.iload_n 1, 1) := by decide +kernel
theorem dX7_spellsAll_26 : decode cX7_spellsAll 26 = .ok (.ifCond .le 9, 3) := by decide +kernel
theorem dX7_spellsAll_29 : decode cX7_spellsAll 29 = .ok (.aload_n 0, 1) := by decide +kernel
theorem dX7_spellsAll_30 : decode cX7_spellsAll 30 = .ok (.bipush 59, 2) := by decide +kernel
theorem dX7_spellsAll_32 : decode cX7_spellsAll 32 = .ok (.invokevirtual 368, 3) := by decide +kernel
theorem dX7_spellsAll_35 : decode cX7_spellsAll 35 = .ok (.aload_n 0, 1) := by decide +kernel
theorem dX7_spellsAll_36 : decode cX7_spellsAll 36 = .ok (.iload_n 2, 1) := by decide +kernel
theorem dX7_spellsAll_37 : decode cX7_spellsAll 37 = .ok (.invokestatic 371, 3) := by decide +kernel
theorem dX7_spellsAll_40 : decode cX7_spellsAll 40 = .ok (.invokevirtual 368, 3) := by decide +kernel
theorem dX7_spellsAll_43 : decode cX7_spellsAll 43 = .ok (.iload_n 2, 1) := by decide +kernel
theorem dX7_spellsAll_44 : decode cX7_spellsAll 44 = .ok (.iconst 2, 1) := by decide +kernel
theorem dX7_spellsAll_45 : decode cX7_spellsAll 45 = .ok (.if_icmp .eq 13, 3) := by decide +kernel
theorem dX7_spellsAll_48 : decode cX7_spellsAll 48 = .ok (.iload_n 2, 1) := by decide +kernel
theorem dX7_spellsAll_49 : decode cX7_spellsAll 49 = .ok (.iconst 3, 1) := by decide +kernel
theorem dX7_spellsAll_50 : decode cX7_spellsAll 50 = .ok (.if_icmp .eq 8, 3) := by decide +kernel
theorem dX7_spellsAll_53 : decode cX7_spellsAll 53 = .ok (.iload_n 2, 1) := by decide +kernel
theorem dX7_spellsAll_54 : decode cX7_spellsAll 54 = .ok (.iconst 4, 1) := by decide +kernel
theorem dX7_spellsAll_55 : decode cX7_spellsAll 55 = .ok (.if_icmp .ne 16, 3) := by decide +kernel
theorem dX7_spellsAll_58 : decode cX7_spellsAll 58 = .ok (.aload_n 0, 1) := by decide +kernel
theorem dX7_spellsAll_59 : decode cX7_spellsAll 59 = .ok (.aload_n 0, 1) := by decide +kernel
theorem dX7_spellsAll_60 : decode cX7_spellsAll 60 = .ok (.getfield 17, 3) := by decide +kernel
theorem dX7_spellsAll_63 : decode cX7_spellsAll 63 = .ok (.iload_n 1, 1) := by decide +kernel
theorem dX7_spellsAll_64 : decode cX7_spellsAll 64 = .ok (.iaload, 1) := by decide +kernel
theorem dX7_spellsAll_65 : decode cX7_spellsAll 65 = .ok (.invokestatic 114, 3) := by decide +kernel
theorem dX7_spellsAll_68 : decode cX7_spellsAll 68 = .ok (.invokevirtual 374, 3) := by decide +kernel
theorem dX7_spellsAll_71 : decode cX7_spellsAll 71 = .ok (.iload_n 2, 1) := by decide +kernel
theorem dX7_spellsAll_72 : decode cX7_spellsAll 72 = .ok (.iconst 2, 1) := by decide +kernel
theorem dX7_spellsAll_73 : decode cX7_spellsAll 73 = .ok (.if_icmp .eq 8, 3) := by decide +kernel
theorem dX7_spellsAll_76 : decode cX7_spellsAll 76 = .ok (.iload_n 2, 1) := by decide +kernel
theorem dX7_spellsAll_77 : decode cX7_spellsAll 77 = .ok (.iconst 4, 1) := by decide +kernel
theorem dX7_spellsAll_78 : decode cX7_spellsAll 78 = .ok (.if_icmp .ne 9, 3) := by decide +kernel
theorem dX7_spellsAll_81 : decode cX7_spellsAll 81 = .ok (.aload_n 0, 1) := by decide +kernel
theorem dX7_spellsAll_82 : decode cX7_spellsAll 82 = .ok (.bipush 44, 2) := by decide +kernel
theorem dX7_spellsAll_84 : decode cX7_spellsAll 84 = .ok (.invokevirtual 368, 3) := by decide +kernel
theorem dX7_spellsAll_87 : decode cX7_spellsAll 87 = .ok (.iload_n 2, 1) := by decide +kernel
theorem dX7_spellsAll_88 : decode cX7_spellsAll 88 = .ok (.ifCond .eq 21, 3) := by decide +kernel
theorem dX7_spellsAll_91 : decode cX7_spellsAll 91 = .ok (.iload_n 2, 1) := by decide +kernel
theorem dX7_spellsAll_92 : decode cX7_spellsAll 92 = .ok (.iconst 3, 1) := by decide +kernel
theorem dX7_spellsAll_93 : decode cX7_spellsAll 93 = .ok (.if_icmp .eq 16, 3) := by decide +kernel
theorem dX7_spellsAll_96 : decode cX7_spellsAll 96 = .ok (.aload_n 0, 1) := by decide +kernel
theorem dX7_spellsAll_97 : decode cX7_spellsAll 97 = .ok (.aload_n 0, 1) := by decide +kernel
theorem dX7_spellsAll_98 : decode cX7_spellsAll 98 = .ok (.getfield 17, 3) := by decide +kernel
theorem dX7_spellsAll_101 : decode cX7_spellsAll 101 = .ok (.iload_n 1, 1) := by decide +kernel
theorem dX7_spellsAll_102 : decode cX7_spellsAll 102 = .ok (.iaload, 1) := by decide +kernel
theorem dX7_spellsAll_103 : decode cX7_spellsAll 103 = .ok (.invokestatic 105, 3) := by decide +kernel
theorem dX7_spellsAll_106 : decode cX7_spellsAll 106 = .ok (.invokevirtual 374, 3) := by decide +kernel
theorem dX7_spellsAll_109 : decode cX7_spellsAll 109 = .ok (.iinc 1 1, 3) := by decide +kernel
theorem dX7_spellsAll_112 : decode cX7_spellsAll 112 = .ok (.goto (-105), 3) := by decide +kernel
theorem dX7_spellsAll_115 : decode cX7_spellsAll 115 = .ok (.return_, 1) := by decide +kernel
theorem dX7_spelled_0 : decode cX7_spelled 0 = .ok (.aload_n 0, 1) := by decide +kernel
theorem dX7_spelled_1 : decode cX7_spelled 1 = .ok (.invokevirtual 377, 3) := by decide +kernel
theorem dX7_spelled_4 : decode cX7_spelled 4 = .ok (.iload_n 1, 1) := by decide +kernel
theorem dX7_spelled_5 : decode cX7_spelled 5 = .ok (.iconst (-1), 1) := by decide +kernel
theorem dX7_spelled_6 : decode cX7_spelled 6 = .ok (.if_icmp .ne 10, 3) := by decide +kernel
theorem dX7_spelled_9 : decode cX7_spelled 9 = .ok (.aload_n 0, 1) := by decide +kernel
theorem dX7_spelled_10 : decode cX7_spelled 10 = .ok (.getfield 365, 3) := by decide +kernel
theorem dX7_spelled_13 : decode cX7_spelled 13 = .ok (.goto 29, 3) := by decide +kernel
theorem dX7_spelled_16 : decode cX7_spelled 16 = .ok (.iload_n 1, 1) := by decide +kernel
theorem dX7_spelled_17 : decode cX7_spelled 17 = .ok (.i2l, 1) := by decide +kernel
theorem dX7_spelled_18 : decode cX7_spelled 18 = .ok (.lconst 0, 1) := by decide +kernel
theorem dX7_spelled_19 : decode cX7_spelled 19 = .ok (.aload_n 0, 1) := by decide +kernel
theorem dX7_spelled_20 : decode cX7_spelled 20 = .ok (.getfield 365, 3) := by decide +kernel
theorem dX7_spelled_23 : decode cX7_spelled 23 = .ok (.iconst 1, 1) := by decide +kernel
theorem dX7_spelled_24 : decode cX7_spelled 24 = .ok (.isub, 1) := by decide +kernel
theorem dX7_spelled_25 : decode cX7_spelled 25 = .ok (.i2l, 1) := by decide +kernel
theorem dX7_spelled_26 : decode cX7_spelled 26 = .ok (.invokestatic 95, 3) := by decide +kernel
theorem dX7_spelled_29 : decode cX7_spelled 29 = .ok (.ifCond .eq 12, 3) := by decide +kernel
theorem dX7_spelled_32 : decode cX7_spelled 32 = .ok (.aload_n 0, 1) := by decide +kernel
theorem dX7_spelled_33 : decode cX7_spelled 33 = .ok (.getfield 73, 3) := by decide +kernel
theorem dX7_spelled_36 : decode cX7_spelled 36 = .ok (.iload_n 1, 1) := by decide +kernel
theorem dX7_spelled_37 : decode cX7_spelled 37 = .ok (.iaload, 1) := by decide +kernel
theorem dX7_spelled_38 : decode cX7_spelled 38 = .ok (.goto 4, 3) := by decide +kernel
theorem dX7_spelled_41 : decode cX7_spelled 41 = .ok (.iconst (-1), 1) := by decide +kernel
theorem dX7_spelled_42 : decode cX7_spelled 42 = .ok (.ireturn, 1) := by decide +kernel
theorem dX7_image_0 : decode cX7_image 0 = .ok (.aload_n 0, 1) := by decide +kernel
theorem dX7_image_1 : decode cX7_image 1 = .ok (.getfield 11, 3) := by decide +kernel
theorem dX7_image_4 : decode cX7_image 4 = .ok (.iconst 0, 1) := by decide +kernel
theorem dX7_image_5 : decode cX7_image 5 = .ok (.aload_n 0, 1) := by decide +kernel
theorem dX7_image_6 : decode cX7_image 6 = .ok (.getfield 76, 3) := by decide +kernel
theorem dX7_image_9 : decode cX7_image 9 = .ok (.iconst 0, 1) := by decide +kernel
theorem dX7_image_10 : decode cX7_image 10 = .ok (.iconst 5, 1) := by decide +kernel
theorem dX7_image_11 : decode cX7_image 11 = .ok (.invokestatic 140, 3) := by decide +kernel
theorem dX7_image_14 : decode cX7_image 14 = .ok (.aload_n 0, 1) := by decide +kernel
theorem dX7_image_15 : decode cX7_image 15 = .ok (.getfield 17, 3) := by decide +kernel
theorem dX7_image_18 : decode cX7_image 18 = .ok (.iconst 0, 1) := by decide +kernel
theorem dX7_image_19 : decode cX7_image 19 = .ok (.aload_n 0, 1) := by decide +kernel
theorem dX7_image_20 : decode cX7_image 20 = .ok (.getfield 79, 3) := by decide +kernel
theorem dX7_image_23 : decode cX7_image 23 = .ok (.iconst 0, 1) := by decide +kernel
theorem dX7_image_24 : decode cX7_image 24 = .ok (.bipush 8, 2) := by decide +kernel
theorem dX7_image_26 : decode cX7_image 26 = .ok (.invokestatic 140, 3) := by decide +kernel
theorem dX7_image_29 : decode cX7_image 29 = .ok (.aload_n 0, 1) := by decide +kernel
theorem dX7_image_30 : decode cX7_image 30 = .ok (.aload_n 0, 1) := by decide +kernel
theorem dX7_image_31 : decode cX7_image 31 = .ok (.getfield 91, 3) := by decide +kernel
theorem dX7_image_34 : decode cX7_image 34 = .ok (.putfield 380, 3) := by decide +kernel
theorem dX7_image_37 : decode cX7_image 37 = .ok (.aload_n 0, 1) := by decide +kernel
theorem dX7_image_38 : decode cX7_image 38 = .ok (.getfield 48, 3) := by decide +kernel
theorem dX7_image_41 : decode cX7_image 41 = .ok (.iconst 0, 1) := by decide +kernel
theorem dX7_image_42 : decode cX7_image 42 = .ok (.aload_n 0, 1) := by decide +kernel
theorem dX7_image_43 : decode cX7_image 43 = .ok (.getfield 82, 3) := by decide +kernel
theorem dX7_image_46 : decode cX7_image 46 = .ok (.iconst 0, 1) := by decide +kernel
theorem dX7_image_47 : decode cX7_image 47 = .ok (.bipush 8, 2) := by decide +kernel
theorem dX7_image_49 : decode cX7_image 49 = .ok (.invokestatic 140, 3) := by decide +kernel
theorem dX7_image_52 : decode cX7_image 52 = .ok (.aload_n 0, 1) := by decide +kernel
theorem dX7_image_53 : decode cX7_image 53 = .ok (.getfield 52, 3) := by decide +kernel
theorem dX7_image_56 : decode cX7_image 56 = .ok (.iconst 0, 1) := by decide +kernel
theorem dX7_image_57 : decode cX7_image 57 = .ok (.aload_n 0, 1) := by decide +kernel
theorem dX7_image_58 : decode cX7_image 58 = .ok (.getfield 85, 3) := by decide +kernel
theorem dX7_image_61 : decode cX7_image 61 = .ok (.iconst 0, 1) := by decide +kernel
theorem dX7_image_62 : decode cX7_image 62 = .ok (.bipush 12, 2) := by decide +kernel
theorem dX7_image_64 : decode cX7_image 64 = .ok (.invokestatic 140, 3) := by decide +kernel
theorem dX7_image_67 : decode cX7_image 67 = .ok (.aload_n 0, 1) := by decide +kernel
theorem dX7_image_68 : decode cX7_image 68 = .ok (.getfield 55, 3) := by decide +kernel
theorem dX7_image_71 : decode cX7_image 71 = .ok (.iconst 0, 1) := by decide +kernel
theorem dX7_image_72 : decode cX7_image 72 = .ok (.aload_n 0, 1) := by decide +kernel
theorem dX7_image_73 : decode cX7_image 73 = .ok (.getfield 88, 3) := by decide +kernel
theorem dX7_image_76 : decode cX7_image 76 = .ok (.iconst 0, 1) := by decide +kernel
theorem dX7_image_77 : decode cX7_image 77 = .ok (.iconst 3, 1) := by decide +kernel
theorem dX7_image_78 : decode cX7_image 78 = .ok (.invokestatic 140, 3) := by decide +kernel
theorem dX7_image_81 : decode cX7_image 81 = .ok (.aload_n 0, 1) := by decide +kernel
theorem dX7_image_82 : decode cX7_image 82 = .ok (.iconst 1, 1) := by decide +kernel
theorem dX7_image_83 : decode cX7_image 83 = .ok (.putfield 383, 3) := by decide +kernel
theorem dX7_image_86 : decode cX7_image 86 = .ok (.aload_n 0, 1) := by decide +kernel
theorem dX7_image_87 : decode cX7_image 87 = .ok (.getfield 91, 3) := by decide +kernel
theorem dX7_image_90 : decode cX7_image 90 = .ok (.ireturn, 1) := by decide +kernel
theorem dX7_undo_0 : decode cX7_undo 0 = .ok (.aload_n 0, 1) := by decide +kernel
theorem dX7_undo_1 : decode cX7_undo 1 = .ok (.getfield 383, 3) := by decide +kernel
theorem dX7_undo_4 : decode cX7_undo 4 = .ok (.ifCond .ne 6, 3) := by decide +kernel
theorem dX7_undo_7 : decode cX7_undo 7 = .ok (.bipush (-3), 2) := by decide +kernel
theorem dX7_undo_9 : decode cX7_undo 9 = .ok (.ireturn, 1) := by decide +kernel
theorem dX7_undo_10 : decode cX7_undo 10 = .ok (.aload_n 0, 1) := by decide +kernel
theorem dX7_undo_11 : decode cX7_undo 11 = .ok (.getfield 76, 3) := by decide +kernel
theorem dX7_undo_14 : decode cX7_undo 14 = .ok (.iconst 0, 1) := by decide +kernel
theorem dX7_undo_15 : decode cX7_undo 15 = .ok (.aload_n 0, 1) := by decide +kernel
theorem dX7_undo_16 : decode cX7_undo 16 = .ok (.getfield 11, 3) := by decide +kernel
theorem dX7_undo_19 : decode cX7_undo 19 = .ok (.iconst 0, 1) := by decide +kernel
theorem dX7_undo_20 : decode cX7_undo 20 = .ok (.iconst 5, 1) := by decide +kernel
theorem dX7_undo_21 : decode cX7_undo 21 = .ok (.invokestatic 140, 3) := by decide +kernel
theorem dX7_undo_24 : decode cX7_undo 24 = .ok (.aload_n 0, 1) := by decide +kernel
theorem dX7_undo_25 : decode cX7_undo 25 = .ok (.getfield 79, 3) := by decide +kernel
theorem dX7_undo_28 : decode cX7_undo 28 = .ok (.iconst 0, 1) := by decide +kernel
theorem dX7_undo_29 : decode cX7_undo 29 = .ok (.aload_n 0, 1) := by decide +kernel
theorem dX7_undo_30 : decode cX7_undo 30 = .ok (.getfield 17, 3) := by decide +kernel
theorem dX7_undo_33 : decode cX7_undo 33 = .ok (.iconst 0, 1) := by decide +kernel
theorem dX7_undo_34 : decode cX7_undo 34 = .ok (.bipush 8, 2) := by decide +kernel
theorem dX7_undo_36 : decode cX7_undo 36 = .ok (.invokestatic 140, 3) := by decide +kernel
theorem dX7_undo_39 : decode cX7_undo 39 = .ok (.aload_n 0, 1) := by decide +kernel
theorem dX7_undo_40 : decode cX7_undo 40 = .ok (.aload_n 0, 1) := by decide +kernel
theorem dX7_undo_41 : decode cX7_undo 41 = .ok (.getfield 380, 3) := by decide +kernel
theorem dX7_undo_44 : decode cX7_undo 44 = .ok (.putfield 91, 3) := by decide +kernel
theorem dX7_undo_47 : decode cX7_undo 47 = .ok (.aload_n 0, 1) := by decide +kernel
theorem dX7_undo_48 : decode cX7_undo 48 = .ok (.getfield 82, 3) := by decide +kernel
theorem dX7_undo_51 : decode cX7_undo 51 = .ok (.iconst 0, 1) := by decide +kernel
theorem dX7_undo_52 : decode cX7_undo 52 = .ok (.aload_n 0, 1) := by decide +kernel
theorem dX7_undo_53 : decode cX7_undo 53 = .ok (.getfield 48, 3) := by decide +kernel
theorem dX7_undo_56 : decode cX7_undo 56 = .ok (.iconst 0, 1) := by decide +kernel
theorem dX7_undo_57 : decode cX7_undo 57 = .ok (.bipush 8, 2) := by decide +kernel
theorem dX7_undo_59 : decode cX7_undo 59 = .ok (.invokestatic 140, 3) := by decide +kernel
theorem dX7_undo_62 : decode cX7_undo 62 = .ok (.aload_n 0, 1) := by decide +kernel
theorem dX7_undo_63 : decode cX7_undo 63 = .ok (.getfield 85, 3) := by decide +kernel
theorem dX7_undo_66 : decode cX7_undo 66 = .ok (.iconst 0, 1) := by decide +kernel
theorem dX7_undo_67 : decode cX7_undo 67 = .ok (.aload_n 0, 1) := by decide +kernel
theorem dX7_undo_68 : decode cX7_undo 68 = .ok (.getfield 52, 3) := by decide +kernel
theorem dX7_undo_71 : decode cX7_undo 71 = .ok (.iconst 0, 1) := by decide +kernel
theorem dX7_undo_72 : decode cX7_undo 72 = .ok (.bipush 12, 2) := by decide +kernel
theorem dX7_undo_74 : decode cX7_undo 74 = .ok (.invokestatic 140, 3) := by decide +kernel
theorem dX7_undo_77 : decode cX7_undo 77 = .ok (.aload_n 0, 1) := by decide +kernel
theorem dX7_undo_78 : decode cX7_undo 78 = .ok (.getfield 88, 3) := by decide +kernel
theorem dX7_undo_81 : decode cX7_undo 81 = .ok (.iconst 0, 1) := by decide +kernel
theorem dX7_undo_82 : decode cX7_undo 82 = .ok (.aload_n 0, 1) := by decide +kernel
theorem dX7_undo_83 : decode cX7_undo 83 = .ok (.getfield 55, 3) := by decide +kernel
theorem dX7_undo_86 : decode cX7_undo 86 = .ok (.iconst 0, 1) := by decide +kernel
theorem dX7_undo_87 : decode cX7_undo 87 = .ok (.iconst 3, 1) := by decide +kernel
theorem dX7_undo_88 : decode cX7_undo 88 = .ok (.invokestatic 140, 3) := by decide +kernel
theorem dX7_undo_91 : decode cX7_undo 91 = .ok (.aload_n 0, 1) := by decide +kernel
theorem dX7_undo_92 : decode cX7_undo 92 = .ok (.getfield 91, 3) := by decide +kernel
theorem dX7_undo_95 : decode cX7_undo 95 = .ok (.ireturn, 1) := by decide +kernel
theorem dX7_count_0 : decode cX7_count 0 = .ok (.iload_n 1, 1) := by decide +kernel
theorem dX7_count_1 : decode cX7_count 1 = .ok (.tableswitch 95 0 4 #[35, 40, 45, 50, 58], 35) := by decide +kernel
theorem dX7_count_36 : decode cX7_count 36 = .ok (.aload_n 0, 1) := by decide +kernel
theorem dX7_count_37 : decode cX7_count 37 = .ok (.getfield 91, 3) := by decide +kernel
theorem dX7_count_40 : decode cX7_count 40 = .ok (.ireturn, 1) := by decide +kernel
theorem dX7_count_41 : decode cX7_count 41 = .ok (.aload_n 0, 1) := by decide +kernel
theorem dX7_count_42 : decode cX7_count 42 = .ok (.getfield 328, 3) := by decide +kernel
theorem dX7_count_45 : decode cX7_count 45 = .ok (.ireturn, 1) := by decide +kernel
theorem dX7_count_46 : decode cX7_count 46 = .ok (.aload_n 0, 1) := by decide +kernel
theorem dX7_count_47 : decode cX7_count 47 = .ok (.getfield 217, 3) := by decide +kernel
theorem dX7_count_50 : decode cX7_count 50 = .ok (.ireturn, 1) := by decide +kernel
theorem dX7_count_51 : decode cX7_count 51 = .ok (.aload_n 0, 1) := by decide +kernel
theorem dX7_count_52 : decode cX7_count 52 = .ok (.iconst 0, 1) := by decide +kernel
theorem dX7_count_53 : decode cX7_count 53 = .ok (.bipush 12, 2) := by decide +kernel
theorem dX7_count_55 : decode cX7_count 55 = .ok (.invokevirtual 323, 3) := by decide +kernel
theorem dX7_count_58 : decode cX7_count 58 = .ok (.ireturn, 1) := by decide +kernel
theorem dX7_count_59 : decode cX7_count 59 = .ok (.iconst 0, 1) := by decide +kernel
theorem dX7_count_60 : decode cX7_count 60 = .ok (.istore_n 2, 1) := by decide +kernel
theorem dX7_count_61 : decode cX7_count 61 = .ok (.iconst 0, 1) := by decide +kernel
theorem dX7_count_62 : decode cX7_count 62 = .ok (.istore_n 3, 1) := by decide +kernel
theorem dX7_count_63 : decode cX7_count 63 = .ok (.iload_n 3, 1) := by decide +kernel
theorem dX7_count_64 : decode cX7_count 64 = .ok (.bipush 8, 2) := by decide +kernel
theorem dX7_count_66 : decode cX7_count 66 = .ok (.if_icmp .ge 28, 3) := by decide +kernel
theorem dX7_count_69 : decode cX7_count 69 = .ok (.iload_n 2, 1) := by decide +kernel
theorem dX7_count_70 : decode cX7_count 70 = .ok (.aload_n 0, 1) := by decide +kernel
theorem dX7_count_71 : decode cX7_count 71 = .ok (.getfield 48, 3) := by decide +kernel
theorem dX7_count_74 : decode cX7_count 74 = .ok (.iload_n 3, 1) := by decide +kernel
theorem dX7_count_75 : decode cX7_count 75 = .ok (.faload, 1) := by decide +kernel
theorem dX7_count_76 : decode cX7_count 76 = .ok (.fconst 0, 1) := by decide +kernel
theorem dX7_count_77 : decode cX7_count 77 = .ok (.fcmp .l, 1) := by decide +kernel
theorem dX7_count_78 : decode cX7_count 78 = .ok (.ifCond .eq 7, 3) := by decide +kernel
theorem dX7_count_81 : decode cX7_count 81 = .ok (.iconst 1, 1) := by decide +kernel
theorem dX7_count_82 : decode cX7_count 82 = .ok (.goto 4, 3) := by decide +kernel
theorem dX7_count_85 : decode cX7_count 85 = .ok (.iconst 0, 1) := by decide +kernel
theorem dX7_count_86 : decode cX7_count 86 = .ok (.iadd, 1) := by decide +kernel
theorem dX7_count_87 : decode cX7_count 87 = .ok (.istore_n 2, 1) := by decide +kernel
theorem dX7_count_88 : decode cX7_count 88 = .ok (.iinc 3 1, 3) := by decide +kernel
theorem dX7_count_91 : decode cX7_count 91 = .ok (.goto (-28), 3) := by decide +kernel
theorem dX7_count_94 : decode cX7_count 94 = .ok (.iload_n 2, 1) := by decide +kernel
theorem dX7_count_95 : decode cX7_count 95 = .ok (.ireturn, 1) := by decide +kernel
theorem dX7_count_96 : decode cX7_count 96 = .ok (.iconst (-1), 1) := by decide +kernel
theorem dX7_count_97 : decode cX7_count 97 = .ok (.ireturn, 1) := by decide +kernel
