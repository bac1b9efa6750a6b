theorem dX8_isIn_0 : decode cX8_isIn 0 = .ok (.iload_n 0, 1) := by decide +kernel
theorem dX8_isIn_1 : decode cX8_isIn 1 = .ok (.iload_n 1, 1) := by decide +kernel
theorem dX8_isIn_2 : decode cX8_isIn 2 = .ok (.if_icmp .lt 12, 3) := by decide +kernel
theorem dX8_isIn_5 : decode cX8_isIn 5 = .ok (.iload_n 0, 1) := by decide +kernel
theorem dX8_isIn_6 : decode cX8_isIn 6 = .ok (.iload_n 2, 1) := by decide +kernel
theorem dX8_isIn_7 : decode cX8_isIn 7 = .ok (.if_icmp .gt 7, 3) := by decide +kernel
theorem dX8_isIn_10 : decode cX8_isIn 10 = .ok (.iconst 1, 1) := by decide +kernel
theorem dX8_isIn_11 : decode cX8_isIn 11 = .ok (.goto 4, 3) := by decide +kernel
theorem dX8_isIn_14 : decode cX8_isIn 14 = .ok (.iconst 0, 1) := by decide +kernel
theorem dX8_isIn_15 : decode cX8_isIn 15 = .ok (.ireturn, 1) := by decide +kernel
theorem dX8_isCorner_0 : decode cX8_isCorner 0 = .ok (.iload_n 0, 1) := by decide +kernel
theorem dX8_isCorner_1 : decode cX8_isCorner 1 = .ok (.iconst 0, 1) := by decide +kernel
theorem dX8_isCorner_2 : decode cX8_isCorner 2 = .ok (.bipush 7, 2) := by decide +kernel
theorem dX8_isCorner_4 : decode cX8_isCorner 4 = .ok (.invokestatic 5, 3) := by decide +kernel
theorem dX8_isCorner_7 : decode cX8_isCorner 7 = .ok (.ireturn, 1) := by decide +kernel
theorem dX8_isMove_0 : decode cX8_isMove 0 = .ok (.iload_n 0, 1) := by decide +kernel
theorem dX8_isMove_1 : decode cX8_isMove 1 = .ok (.iconst 0, 1) := by decide +kernel
theorem dX8_isMove_2 : decode cX8_isMove 2 = .ok (.bipush 47, 2) := by decide +kernel
theorem dX8_isMove_4 : decode cX8_isMove 4 = .ok (.invokestatic 5, 3) := by decide +kernel
theorem dX8_isMove_7 : decode cX8_isMove 7 = .ok (.ireturn, 1) := by decide +kernel
theorem dX8_bits_0 : decode cX8_bits 0 = .ok (.iconst 0, 1) := by decide +kernel
theorem dX8_bits_1 : decode cX8_bits 1 = .ok (.istore_n 1, 1) := by decide +kernel
theorem dX8_bits_2 : decode cX8_bits 2 = .ok (.iconst 0, 1) := by decide +kernel
theorem dX8_bits_3 : decode cX8_bits 3 = .ok (.istore_n 2, 1) := by decide +kernel
theorem dX8_bits_4 : decode cX8_bits 4 = .ok (.iload_n 2, 1) := by decide +kernel
theorem dX8_bits_5 : decode cX8_bits 5 = .ok (.bipush 8, 2) := by decide +kernel
theorem dX8_bits_7 : decode cX8_bits 7 = .ok (.if_icmp .ge 17, 3) := by decide +kernel
theorem dX8_bits_10 : decode cX8_bits 10 = .ok (.iload_n 1, 1) := by decide +kernel
theorem dX8_bits_11 : decode cX8_bits 11 = .ok (.iload_n 0, 1) := by decide +kernel
theorem dX8_bits_12 : decode cX8_bits 12 = .ok (.iload_n 2, 1) := by decide +kernel
theorem dX8_bits_13 : decode cX8_bits 13 = .ok (.ishr, 1) := by decide +kernel
theorem dX8_bits_14 : decode cX8_bits 14 = .ok (.iconst 1, 1) := by decide +kernel
theorem dX8_bits_15 : decode cX8_bits 15 = .ok (.iand, 1) := by decide +kernel
theorem dX8_bits_16 : decode cX8_bits 16 = .ok (.iadd, 1) := by decide +kernel
theorem dX8_bits_17 : decode cX8_bits 17 = .ok (.istore_n 1, 1) := by decide +kernel
theorem dX8_bits_18 : decode cX8_bits 18 = .ok (.iinc 2 1, 3) := by decide +kernel
theorem dX8_bits_21 : decode cX8_bits 21 = .ok (.goto (-17), 3) := by decide +kernel
theorem dX8_bits_24 : decode cX8_bits 24 = .ok (.iload_n 1, 1) := by decide +kernel
theorem dX8_bits_25 : decode cX8_bits 25 = .ok (.ireturn, 1) := by decide +kernel
theorem dX8_init_0 : decode cX8_init 0 = .ok (.aload_n 0, 1) := by decide +kernel
theorem dX8_init_1 : decode cX8_init 1 = .ok (.invokespecial 9, 3) := by decide +kernel
theorem dX8_init_4 : decode cX8_init 4 = .ok (.aload_n 0, 1) := by decide +kernel
theorem dX8_init_5 : decode cX8_init 5 = .ok (.sipush 384, 3) := by decide +kernel
theorem dX8_init_8 : decode cX8_init 8 = .ok (.newarray .int, 2) := by decide +kernel
theorem dX8_init_10 : decode cX8_init 10 = .ok (.putfield 15, 3) := by decide +kernel
theorem dX8_init_13 : decode cX8_init 13 = .ok (.aload_n 0, 1) := by decide +kernel
theorem dX8_init_14 : decode cX8_init 14 = .ok (.sipush 256, 3) := by decide +kernel
theorem dX8_init_17 : decode cX8_init 17 = .ok (.newarray .int, 2) := by decide +kernel
theorem dX8_init_19 : decode cX8_init 19 = .ok (.putfield 19, 3) := by decide +kernel
theorem dX8_init_22 : decode cX8_init 22 = .ok (.aload_n 0, 1) := by decide +kernel
theorem dX8_init_23 : decode cX8_init 23 = .ok (.sipush 256, 3) := by decide +kernel
theorem dX8_init_26 : decode cX8_init 26 = .ok (.newarray .int, 2) := by decide +kernel
theorem dX8_init_28 : decode cX8_init 28 = .ok (.putfield 22, 3) := by decide +kernel
theorem dX8_init_31 : decode cX8_init 31 = .ok (.aload_n 0, 1) := by decide +kernel
theorem dX8_init_32 : decode cX8_init 32 = .ok (.bipush 6, 2) := by decide +kernel
theorem dX8_init_34 : decode cX8_init 34 = .ok (.newarray .int, 2) := by decide +kernel
theorem dX8_init_36 : decode cX8_init 36 = .ok (.dup, 1) := by decide +kernel
theorem dX8_init_37 : decode cX8_init 37 = .ok (.iconst 0, 1) := by decide +kernel
theorem dX8_init_38 : decode cX8_init 38 = .ok (.iconst 0, 1) := by decide +kernel
theorem dX8_init_39 : decode cX8_init 39 = .ok (.iastore, 1) := by decide +kernel
theorem dX8_init_40 : decode cX8_init 40 = .ok (.dup, 1) := by decide +kernel
theorem dX8_init_41 : decode cX8_init 41 = .ok (.iconst 1, 1) := by decide +kernel
theorem dX8_init_42 : decode cX8_init 42 = .ok (.iconst 0, 1) := by decide +kernel
theorem dX8_init_43 : decode cX8_init 43 = .ok (.iastore, 1) := by decide +kernel
theorem dX8_init_44 : decode cX8_init 44 = .ok (.dup, 1) := by decide +kernel
theorem dX8_init_45 : decode cX8_init 45 = .ok (.iconst 2, 1) := by decide +kernel
theorem dX8_init_46 : decode cX8_init 46 = .ok (.iconst 1, 1) := by decide +kernel
theorem dX8_init_47 : decode cX8_init 47 = .ok (.iastore, 1) := by decide +kernel
theorem dX8_init_48 : decode cX8_init 48 = .ok (.dup, 1) := by decide +kernel
theorem dX8_init_49 : decode cX8_init 49 = .ok (.iconst 3, 1) := by decide +kernel
theorem dX8_init_50 : decode cX8_init 50 = .ok (.iconst 1, 1) := by decide +kernel
theorem dX8_init_51 : decode cX8_init 51 = .ok (.iastore, 1) := by decide +kernel
theorem dX8_init_52 : decode cX8_init 52 = .ok (.dup, 1) := by decide +kernel
theorem dX8_init_53 : decode cX8_init 53 = .ok (.iconst 4, 1) := by decide +kernel
theorem dX8_init_54 : decode cX8_init 54 = .ok (.iconst 2, 1) := by decide +kernel
theorem dX8_init_55 : decode cX8_init 55 = .ok (.iastore, 1) := by decide +kernel
theorem dX8_init_56 : decode cX8_init 56 = .ok (.dup, 1) := by decide +kernel
theorem dX8_init_57 : decode cX8_init 57 = .ok (.iconst 5, 1) := by decide +kernel
theorem dX8_init_58 : decode cX8_init 58 = .ok (.iconst 2, 1) := by decide +kernel
theorem dX8_init_59 : decode cX8_init 59 = .ok (.iastore, 1) := by decide +kernel
theorem dX8_init_60 : decode cX8_init 60 = .ok (.putfield 25, 3) := by decide +kernel
theorem dX8_init_63 : decode cX8_init 63 = .ok (.aload_n 0, 1) := by decide +kernel
theorem dX8_init_64 : decode cX8_init 64 = .ok (.bipush 6, 2) := by decide +kernel
theorem dX8_init_66 : decode cX8_init 66 = .ok (.newarray .int, 2) := by decide +kernel
theorem dX8_init_68 : decode cX8_init 68 = .ok (.dup, 1) := by decide +kernel
theorem dX8_init_69 : decode cX8_init 69 = .ok (.iconst 0, 1) := by decide +kernel
theorem dX8_init_70 : decode cX8_init 70 = .ok (.iconst 1, 1) := by decide +kernel
theorem dX8_init_71 : decode cX8_init 71 = .ok (.iastore, 1) := by decide +kernel
theorem dX8_init_72 : decode cX8_init 72 = .ok (.dup, 1) := by decide +kernel
theorem dX8_init_73 : decode cX8_init 73 = .ok (.iconst 1, 1) := by decide +kernel
theorem dX8_init_74 : decode cX8_init 74 = .ok (.iconst 2, 1) := by decide +kernel
theorem dX8_init_75 : decode cX8_init 75 = .ok (.iastore, 1) := by decide +kernel
theorem dX8_init_76 : decode cX8_init 76 = .ok (.dup, 1) := by decide +kernel
theorem dX8_init_77 : decode cX8_init 77 = .ok (.iconst 2, 1) := by decide +kernel
theorem dX8_init_78 : decode cX8_init 78 = .ok (.iconst 0, 1) := by decide +kernel
theorem dX8_init_79 : decode cX8_init 79 = .ok (.iastore, 1) := by decide +kernel
theorem dX8_init_80 : decode cX8_init 80 = .ok (.dup, 1) := by decide +kernel
theorem dX8_init_81 : decode cX8_init 81 = .ok (.iconst 3, 1) := by decide +kernel
theorem dX8_init_82 : decode cX8_init 82 = .ok (.iconst 2, 1) := by decide +kernel
theorem dX8_init_83 : decode cX8_init 83 = .ok (.iastore, 1) := by decide +kernel
theorem dX8_init_84 : decode cX8_init 84 = .ok (.dup, 1) := by decide +kernel
theorem dX8_init_85 : decode cX8_init 85 = .ok (.iconst 4, 1) := by decide +kernel
theorem dX8_init_86 : decode cX8_init 86 = .ok (.iconst 0, 1) := by decide +kernel
theorem dX8_init_87 : decode cX8_init 87 = .ok (.iastore, 1) := by decide +kernel
theorem dX8_init_88 : decode cX8_init 88 = .ok (.dup, 1) := by decide +kernel
theorem dX8_init_89 : decode cX8_init 89 = .ok (.iconst 5, 1) := by decide +kernel
theorem dX8_init_90 : decode cX8_init 90 = .ok (.iconst 1, 1) := by decide +kernel
theorem dX8_init_91 : decode cX8_init 91 = .ok (.iastore, 1) := by decide +kernel
theorem dX8_init_92 : decode cX8_init 92 = .ok (.putfield 28, 3) := by decide +kernel
theorem dX8_init_95 : decode cX8_init 95 = .ok (.aload_n 0, 1) := by decide +kernel
theorem dX8_init_96 : decode cX8_init 96 = .ok (.sipush 256, 3) := by decide +kernel
theorem dX8_init_99 : decode cX8_init 99 = .ok (.newarray .boolean, 2) := by decide +kernel
theorem dX8_init_101 : decode cX8_init 101 = .ok (.putfield 31, 3) := by decide +kernel
theorem dX8_init_104 : decode cX8_init 104 = .ok (.aload_n 0, 1) := by decide +kernel
theorem dX8_init_105 : decode cX8_init 105 = .ok (.bipush 24, 2) := by decide +kernel
theorem dX8_init_107 : decode cX8_init 107 = .ok (.newarray .int, 2) := by decide +kernel
theorem dX8_init_109 : decode cX8_init 109 = .ok (.putfield 35, 3) := by decide +kernel
theorem dX8_init_112 : decode cX8_init 112 = .ok (.aload_n 0, 1) := by decide +kernel
theorem dX8_init_113 : decode cX8_init 113 = .ok (.bipush 100, 2) := by decide +kernel
theorem dX8_init_115 : decode cX8_init 115 = .ok (.newarray .int, 2) := by decide +kernel
theorem dX8_init_117 : decode cX8_init 117 = .ok (.putfield 38, 3) := by decide +kernel
theorem dX8_init_120 : decode cX8_init 120 = .ok (.aload_n 0, 1) := by decide +kernel
theorem dX8_init_121 : decode cX8_init 121 = .ok (.bipush 12, 2) := by decide +kernel
theorem dX8_init_123 : decode cX8_init 123 = .ok (.newarray .int, 2) := by decide +kernel
theorem dX8_init_125 : decode cX8_init 125 = .ok (.putfield 41, 3) := by decide +kernel
theorem dX8_init_128 : decode cX8_init 128 = .ok (.aload_n 0, 1) := by decide +kernel
theorem dX8_init_129 : decode cX8_init 129 = .ok (.bipush 12, 2) := by decide +kernel
theorem dX8_init_131 : decode cX8_init 131 = .ok (.newarray .int, 2) := by decide +kernel
theorem dX8_init_133 : decode cX8_init 133 = .ok (.putfield 44, 3) := by decide +kernel
theorem dX8_init_136 : decode cX8_init 136 = .ok (.aload_n 0, 1) := by decide +kernel
theorem dX8_init_137 : decode cX8_init 137 = .ok (.iconst 4, 1) := by decide +kernel
theorem dX8_init_138 : decode cX8_init 138 = .ok (.newarray .int, 2) := by decide +kernel
theorem dX8_init_140 : decode cX8_init 140 = .ok (.putfield 47, 3) := by decide +kernel
theorem dX8_init_143 : decode cX8_init 143 = .ok (.aload_n 0, 1) := by decide +kernel
theorem dX8_init_144 : decode cX8_init 144 = .ok (.iconst 4, 1) := by decide +kernel
theorem dX8_init_145 : decode cX8_init 145 = .ok (.newarray .int, 2) := by decide +kernel
theorem dX8_init_147 : decode cX8_init 147 = .ok (.putfield 50, 3) := by decide +kernel
theorem dX8_init_150 : decode cX8_init 150 = .ok (.aload_n 0, 1) := by decide +kernel
theorem dX8_init_151 : decode cX8_init 151 = .ok (.bipush 8, 2) := by decide +kernel
theorem dX8_init_153 : decode cX8_init 153 = .ok (.newarray .int, 2) := by decide +kernel
theorem dX8_init_155 : decode cX8_init 155 = .ok (.putfield 53, 3) := by decide +kernel
theorem dX8_init_158 : decode cX8_init 158 = .ok (.aload_n 0, 1) := by decide +kernel
theorem dX8_init_159 : decode cX8_init 159 = .ok (.bipush 8, 2) := by decide +kernel
theorem dX8_init_161 : decode cX8_init 161 = .ok (.newarray .int, 2) := by decide +kernel
theorem dX8_init_163 : decode cX8_init 163 = .ok (.putfield 56, 3) := by decide +kernel
theorem dX8_init_166 : decode cX8_init 166 = .ok (.aload_n 0, 1) := by decide +kernel
theorem dX8_init_167 : decode cX8_init 167 = .ok (.bipush 8, 2) := by decide +kernel
theorem dX8_init_169 : decode cX8_init 169 = .ok (.newarray .int, 2) := by decide +kernel
theorem dX8_init_171 : decode cX8_init 171 = .ok (.putfield 59, 3) := by decide +kernel
theorem dX8_init_174 : decode cX8_init 174 = .ok (.aload_n 0, 1) := by decide +kernel
theorem dX8_init_175 : decode cX8_init 175 = .ok (.bipush 8, 2) := by decide +kernel
theorem dX8_init_177 : decode cX8_init 177 = .ok (.newarray .int, 2) := by decide +kernel
theorem dX8_init_179 : decode cX8_init 179 = .ok (.putfield 62, 3) := by decide +kernel
theorem dX8_init_182 : decode cX8_init 182 = .ok (.aload_n 0, 1) := by decide +kernel
theorem dX8_init_183 : decode cX8_init 183 = .ok (.bipush 50, 2) := by decide +kernel
theorem dX8_init_185 : decode cX8_init 185 = .ok (.newarray .int, 2) := by decide +kernel
theorem dX8_init_187 : decode cX8_init 187 = .ok (.putfield 65, 3) := by decide +kernel
theorem dX8_init_190 : decode cX8_init 190 = .ok (.aload_n 0, 1) := by decide +kernel
theorem dX8_init_191 : decode cX8_init 191 = .ok (.bipush 6, 2) := by decide +kernel
theorem dX8_init_193 : decode cX8_init 193 = .ok (.newarray .int, 2) := by decide +kernel
theorem dX8_init_195 : decode cX8_init 195 = .ok (.putfield 68, 3) := by decide +kernel
theorem dX8_init_198 : decode cX8_init 198 = .ok (.aload_n 0, 1) := by decide +kernel
theorem dX8_init_199 : decode cX8_init 199 = .ok (.bipush 6, 2) := by decide +kernel
theorem dX8_init_201 : decode cX8_init 201 = .ok (.newarray .int, 2) := by decide +kernel
theorem dX8_init_203 : decode cX8_init 203 = .ok (.putfield 71, 3) := by decide +kernel
theorem dX8_init_206 : decode cX8_init 206 = .ok (.aload_n 0, 1) := by decide +kernel
theorem dX8_init_207 : decode cX8_init 207 = .ok (.sipush 360, 3) := by decide +kernel
theorem dX8_init_210 : decode cX8_init 210 = .ok (.newarray .long, 2) := by decide +kernel
theorem dX8_init_212 : decode cX8_init 212 = .ok (.putfield 74, 3) := by decide +kernel
theorem dX8_init_215 : decode cX8_init 215 = .ok (.aload_n 0, 1) := by decide +kernel
theorem dX8_init_216 : decode cX8_init 216 = .ok (.bipush 60, 2) := by decide +kernel
theorem dX8_init_218 : decode cX8_init 218 = .ok (.newarray .long, 2) := by decide +kernel
theorem dX8_init_220 : decode cX8_init 220 = .ok (.putfield 78, 3) := by decide +kernel
theorem dX8_init_223 : decode cX8_init 223 = .ok (.iconst 0, 1) := by decide +kernel
theorem dX8_init_224 : decode cX8_init 224 = .ok (.istore_n 1, 1) := by decide +kernel
theorem dX8_init_225 : decode cX8_init 225 = .ok (.iload_n 1, 1) := by decide +kernel
theorem dX8_init_226 : decode cX8_init 226 = .ok (.bipush 48, 2) := by decide +kernel
theorem dX8_init_228 : decode cX8_init 228 = .ok (.if_icmp .ge 94, 3) := by decide +kernel
theorem dX8_init_231 : decode cX8_init 231 = .ok (.aload_n 0, 1) := by decide +kernel
theorem dX8_init_232 : decode cX8_init 232 = .ok (.getfield 25, 3) := by decide +kernel
theorem dX8_init_235 : decode cX8_init 235 = .ok (.iload_n 1, 1) := by decide +kernel
theorem dX8_init_236 : decode cX8_init 236 = .ok (.bipush 8, 2) := by decide +kernel
theorem dX8_init_238 : decode cX8_init 238 = .ok (.idiv, 1) := by decide +kernel
theorem dX8_init_239 : decode cX8_init 239 = .ok (.iaload, 1) := by decide +kernel
theorem dX8_init_240 : decode cX8_init 240 = .ok (.istore_n 2, 1) := by decide +kernel
theorem dX8_init_241 : decode cX8_init 241 = .ok (.aload_n 0, 1) := by decide +kernel
theorem dX8_init_242 : decode cX8_init 242 = .ok (.getfield 28, 3) := by decide +kernel
theorem dX8_init_245 : decode cX8_init 245 = .ok (.iload_n 1, 1) := by decide +kernel
theorem dX8_init_246 : decode cX8_init 246 = .ok (.bipush 8, 2) := by decide +kernel
theorem dX8_init_248 : decode cX8_init 248 = .ok (.idiv, 1) := by decide +kernel
theorem dX8_init_249 : decode cX8_init 249 = .ok (.iaload, 1) := by decide +kernel
theorem dX8_init_250 : decode cX8_init 250 = .ok (.istore_n 3, 1) := by decide +kernel
theorem dX8_init_251 : decode cX8_init 251 = .ok (.iconst 3, 1) := by decide +kernel
theorem dX8_init_252 : decode cX8_init 252 = .ok (.iload_n 2, 1) := by decide +kernel
theorem dX8_init_253 : decode cX8_init 253 = .ok (.isub, 1) := by decide +kernel
theorem dX8_init_254 : decode cX8_init 254 = .ok (.iload_n 3, 1) := by decide +kernel
theorem dX8_init_255 : decode cX8_init 255 = .ok (.isub, 1) := by decide +kernel
theorem dX8_init_256 : decode cX8_init 256 = .ok (.istore 4, 2) := by decide +kernel
theorem dX8_init_258 : decode cX8_init 258 = .ok (.iconst 0, 1) := by decide +kernel
theorem dX8_init_259 : decode cX8_init 259 = .ok (.istore 5, 2) := by decide +kernel
theorem dX8_init_261 : decode cX8_init 261 = .ok (.iload 5, 2) := by decide +kernel
theorem dX8_init_263 : decode cX8_init 263 = .ok (.bipush 8, 2) := by decide +kernel
theorem dX8_init_265 : decode cX8_init 265 = .ok (.if_icmp .ge 51, 3) := by decide +kernel
theorem dX8_init_268 : decode cX8_init 268 = .ok (.aload_n 0, 1) := by decide +kernel
theorem dX8_init_269 : decode cX8_init 269 = .ok (.getfield 15, 3) := by decide +kernel
theorem dX8_init_272 : decode cX8_init 272 = .ok (.bipush 8, 2) := by decide +kernel
theorem dX8_init_274 : decode cX8_init 274 = .ok (.iload_n 1, 1) := by decide +kernel
theorem dX8_init_275 : decode cX8_init 275 = .ok (.imul, 1) := by decide +kernel
theorem dX8_init_276 : decode cX8_init 276 = .ok (.iload 5, 2) := by decide +kernel
theorem dX8_init_278 : decode cX8_init 278 = .ok (.iadd, 1) := by decide +kernel
theorem dX8_init_279 : decode cX8_init 279 = .ok (.iload 5, 2) := by decide +kernel
theorem dX8_init_281 : decode cX8_init 281 = .ok (.iload_n 2, 1) := by decide +kernel
theorem dX8_init_282 : decode cX8_init 282 = .ok (.ishr, 1) := by decide +kernel
theorem dX8_init_283 : decode cX8_init 283 = .ok (.iconst 1, 1) := by decide +kernel
theorem dX8_init_284 : decode cX8_init 284 = .ok (.iand, 1) := by decide +kernel
theorem dX8_init_285 : decode cX8_init 285 = .ok (.iload 5, 2) := by decide +kernel
theorem dX8_init_287 : decode cX8_init 287 = .ok (.iload_n 3, 1) := by decide +kernel
theorem dX8_init_288 : decode cX8_init 288 = .ok (.ishr, 1) := by decide +kernel
theorem dX8_init_289 : decode cX8_init 289 = .ok (.iconst 1, 1) := by decide +kernel
theorem dX8_init_290 : decode cX8_init 290 = .ok (.iand, 1) := by decide +kernel
theorem dX8_init_291 : decode cX8_init 291 = .ok (.iconst 1, 1) := by decide +kernel
theorem dX8_init_292 : decode cX8_init 292 = .ok (.ishl, 1) := by decide +kernel
theorem dX8_init_293 : decode cX8_init 293 = .ok (.ior, 1) := by decide +kernel
theorem dX8_init_294 : decode cX8_init 294 = .ok (.iload 5, 2) := by decide +kernel
theorem dX8_init_296 : decode cX8_init 296 = .ok (.iload 4, 2) := by decide +kernel
theorem dX8_init_298 : decode cX8_init 298 = .ok (.ishr, 1) := by decide +kernel
theorem dX8_init_299 : decode cX8_init 299 = .ok (.iconst 1, 1) := by decide +kernel
theorem dX8_init_300 : decode cX8_init 300 = .ok (.iand, 1) := by decide +kernel
theorem dX8_init_301 : decode cX8_init 301 = .ok (.iconst 2, 1) := by decide +kernel
theorem dX8_init_302 : decode cX8_init 302 = .ok (.ishl, 1) := by decide +kernel
theorem dX8_init_303 : decode cX8_init 303 = .ok (.ior, 1) := by decide +kernel
theorem dX8_init_304 : decode cX8_init 304 = .ok (.iload_n 1, 1) := by decide +kernel
theorem dX8_init_305 : decode cX8_init 305 = .ok (.bipush 8, 2) := by decide +kernel
theorem dX8_init_307 : decode cX8_init 307 = .ok (.irem, 1) := by decide +kernel
theorem dX8_init_308 : decode cX8_init 308 = .ok (.ixor, 1) := by decide +kernel
theorem dX8_init_309 : decode cX8_init 309 = .ok (.iastore, 1) := by decide +kernel
theorem dX8_init_310 : decode cX8_init 310 = .ok (.iinc 5 1, 3) := by decide +kernel
theorem dX8_init_313 : decode cX8_init 313 = .ok (.goto (-52), 3) := by decide +kernel
theorem dX8_init_316 : decode cX8_init 316 = .ok (.iinc 1 1, 3) := by decide +kernel
theorem dX8_init_319 : decode cX8_init 319 = .ok (.goto (-94), 3) := by decide +kernel
theorem dX8_init_322 : decode cX8_init 322 = .ok (.iconst 0, 1) := by decide +kernel
theorem dX8_init_323 : decode cX8_init 323 = .ok (.istore_n 1, 1) := by decide +kernel
theorem dX8_init_324 : decode cX8_init 324 = .ok (.iconst 0, 1) := by decide +kernel
theorem dX8_init_325 : decode cX8_init 325 = .ok (.istore_n 2, 1) := by decide +kernel
theorem dX8_init_326 : decode cX8_init 326 = .ok (.iload_n 2, 1) := by decide +kernel
theorem dX8_init_327 : decode cX8_init 327 = .ok (.sipush 256, 3) := by decide +kernel
theorem dX8_init_330 : decode cX8_init 330 = .ok (.if_icmp .ge 90, 3) := by decide +kernel
theorem dX8_init_333 : decode cX8_init 333 = .ok (.iload_n 2, 1) := by decide +kernel
theorem dX8_init_334 : decode cX8_init 334 = .ok (.istore_n 3, 1) := by decide +kernel
theorem dX8_init_335 : decode cX8_init 335 = .ok (.iconst 0, 1) := by decide +kernel
theorem dX8_init_336 : decode cX8_init 336 = .ok (.istore 4, 2) := by decide +kernel
theorem dX8_init_338 : decode cX8_init 338 = .ok (.iload 4, 2) := by decide +kernel
theorem dX8_init_340 : decode cX8_init 340 = .ok (.bipush 48, 2) := by decide +kernel
theorem dX8_init_342 : decode cX8_init 342 = .ok (.if_icmp .ge 31, 3) := by decide +kernel
theorem dX8_init_345 : decode cX8_init 345 = .ok (.aload_n 0, 1) := by decide +kernel
theorem dX8_init_346 : decode cX8_init 346 = .ok (.iload_n 2, 1) := by decide +kernel
theorem dX8_init_347 : decode cX8_init 347 = .ok (.iload 4, 2) := by decide +kernel
theorem dX8_init_349 : decode cX8_init 349 = .ok (.invokevirtual 81, 3) := by decide +kernel
theorem dX8_init_352 : decode cX8_init 352 = .ok (.istore 5, 2) := by decide +kernel
theorem dX8_init_354 : decode cX8_init 354 = .ok (.iload 5, 2) := by decide +kernel
theorem dX8_init_356 : decode cX8_init 356 = .ok (.iload_n 3, 1) := by decide +kernel
theorem dX8_init_357 : decode cX8_init 357 = .ok (.if_icmp .ge 8, 3) := by decide +kernel
theorem dX8_init_360 : decode cX8_init 360 = .ok (.iload 5, 2) := by decide +kernel
theorem dX8_init_362 : decode cX8_init 362 = .ok (.goto 4, 3) := by decide +kernel
theorem dX8_init_365 : decode cX8_init 365 = .ok (.iload_n 3, 1) := by decide +kernel
theorem dX8_init_366 : decode cX8_init 366 = .ok (.istore_n 3, 1) := by decide +kernel
theorem dX8_init_367 : decode cX8_init 367 = .ok (.iinc 4 1, 3) := by decide +kernel
theorem dX8_init_370 : decode cX8_init 370 = .ok (.goto (-32), 3) := by decide +kernel
theorem dX8_init_373 : decode cX8_init 373 = .ok (.aload_n 0, 1) := by decide +kernel
theorem dX8_init_374 : decode cX8_init 374 = .ok (.getfield 19, 3) := by decide +kernel
theorem dX8_init_377 : decode cX8_init 377 = .ok (.iload_n 2, 1) := by decide +kernel
theorem dX8_init_378 : decode cX8_init 378 = .ok (.iload_n 3, 1) := by decide +kernel
theorem dX8_init_379 : decode cX8_init 379 = .ok (.iastore, 1) := by decide +kernel
theorem dX8_init_380 : decode cX8_init 380 = .ok (.aload_n 0, 1) := by decide +kernel
theorem dX8_init_381 : decode cX8_init 381 = .ok (.getfield 22, 3) := by decide +kernel
theorem dX8_init_384 : decode cX8_init 384 = .ok (.iload_n 2, 1) := by decide +kernel
theorem dX8_init_385 : decode cX8_init 385 = .ok (.iload_n 3, 1) := by decide +kernel
theorem dX8_init_386 : decode cX8_init 386 = .ok (.iload_n 2, 1) := by decide +kernel
theorem dX8_init_387 : decode cX8_init 387 = .ok (.if_icmp .ne 7, 3) := by decide +kernel
theorem dX8_init_390 : decode cX8_init 390 = .ok (.iload_n 1, 1) := by decide +kernel
theorem dX8_init_391 : decode cX8_init 391 = .ok (.goto 9, 3) := by decide +kernel
theorem dX8_init_394 : decode cX8_init 394 = .ok (.aload_n 0, 1) := by decide +kernel
theorem dX8_init_395 : decode cX8_init 395 = .ok (.getfield 22, 3) := by decide +kernel
theorem dX8_init_398 : decode cX8_init 398 = .ok (.iload_n 3, 1) := by decide +kernel
theorem dX8_init_399 : decode cX8_init 399 = .ok (.iaload, 1) := by decide +kernel
theorem dX8_init_400 : decode cX8_init 400 = .ok (.iastore, 1) := by decide +kernel
theorem dX8_init_401 : decode cX8_init 401 = .ok (.iload_n 1, 1) := by decide +kernel
theorem dX8_init_402 : decode cX8_init 402 = .ok (.iload_n 3, 1) := by decide +kernel
theorem dX8_init_403 : decode cX8_init 403 = .ok (.iload_n 2, 1) := by decide +kernel
theorem dX8_init_404 : decode cX8_init 404 = .ok (.if_icmp .ne 7, 3) := by decide +kernel
theorem dX8_init_407 : decode cX8_init 407 = .ok (.iconst 1, 1) := by decide +kernel
theorem dX8_init_408 : decode cX8_init 408 = .ok (.goto 4, 3) := by decide +kernel
theorem dX8_init_411 : decode cX8_init 411 = .ok (.iconst 0, 1) := by decide +kernel
theorem dX8_init_412 : decode cX8_init 412 = .ok (.iadd, 1) := by decide +kernel
theorem dX8_init_413 : decode cX8_init 413 = .ok (.istore_n 1, 1) := by decide +kernel
theorem dX8_init_414 : decode cX8_init 414 = .ok (.iinc 2 1, 3) := by decide +kernel
theorem dX8_init_417 : decode cX8_init 417 = .ok (.goto (-91), 3) := by decide +kernel
theorem dX8_init_420 : decode cX8_init 420 = .ok (.iconst 0, 1) := by decide +kernel
theorem dX8_init_421 : decode cX8_init 421 = .ok (.istore_n 2, 1) := by decide +kernel
theorem dX8_init_422 : decode cX8_init 422 = .ok (.iload_n 2, 1) := by decide +kernel
theorem dX8_init_423 : decode cX8_init 423 = .ok (.bipush 6, 2) := by decide +kernel
theorem dX8_init_425 : decode cX8_init 425 = .ok (.if_icmp .ge 16, 3) := by decide +kernel
theorem dX8_init_428 : decode cX8_init 428 = .ok (.aload_n 0, 1) := by decide +kernel
theorem dX8_init_429 : decode cX8_init 429 = .ok (.getfield 71, 3) := by decide +kernel
theorem dX8_init_432 : decode cX8_init 432 = .ok (.iload_n 2, 1) := by decide +kernel
theorem dX8_init_433 : decode cX8_init 433 = .ok (.iconst (-1), 1) := by decide +kernel
theorem dX8_init_434 : decode cX8_init 434 = .ok (.iastore, 1) := by decide +kernel
theorem dX8_init_435 : decode cX8_init 435 = .ok (.iinc 2 1, 3) := by decide +kernel
theorem dX8_init_438 : decode cX8_init 438 = .ok (.goto (-16), 3) := by decide +kernel
theorem dX8_init_441 : decode cX8_init 441 = .ok (.return_, 1) := by decide +kernel
theorem dX8_imageOf_0 : decode cX8_imageOf 0 = .ok (.iconst 0, 1) := by decide +kernel
theorem dX8_imageOf_1 : decode cX8_imageOf 1 = .ok (.istore_n 3, 1) := by decide +kernel
theorem dX8_imageOf_2 : decode cX8_imageOf 2 = .ok (.iconst 0, 1) := by decide +kernel
theorem dX8_imageOf_3 : decode cX8_imageOf 3 = .ok (.istore 4, 2) := by decide +kernel
theorem dX8_imageOf_5 : decode cX8_imageOf 5 = .ok (.iload 4, 2) := by decide +kernel
theorem dX8_imageOf_7 : decode cX8_imageOf 7 = .ok (.bipush 8, 2) := by decide +kernel
theorem dX8_imageOf_9 : decode cX8_imageOf 9 = .ok (.if_icmp .ge 31, 3) := by decide +kernel
theorem dX8_imageOf_12 : decode cX8_imageOf 12 = .ok (.iload_n 3, 1) := by decide +kernel
theorem dX8_imageOf_13 : decode cX8_imageOf 13 = .ok (.iload_n 1, 1) := by decide +kernel
theorem dX8_imageOf_14 : decode cX8_imageOf 14 = .ok (.iload 4, 2) := by decide +kernel
theorem dX8_imageOf_16 : decode cX8_imageOf 16 = .ok (.ishr, 1) := by decide +kernel
theorem dX8_imageOf_17 : decode cX8_imageOf 17 = .ok (.iconst 1, 1) := by decide +kernel
theorem dX8_imageOf_18 : decode cX8_imageOf 18 = .ok (.iand, 1) := by decide +kernel
theorem dX8_imageOf_19 : decode cX8_imageOf 19 = .ok (.aload_n 0, 1) := by decide +kernel
theorem dX8_imageOf_20 : decode cX8_imageOf 20 = .ok (.getfield 15, 3) := by decide +kernel
theorem dX8_imageOf_23 : decode cX8_imageOf 23 = .ok (.bipush 8, 2) := by decide +kernel
theorem dX8_imageOf_25 : decode cX8_imageOf 25 = .ok (.iload_n 2, 1) := by decide +kernel
theorem dX8_imageOf_26 : decode cX8_imageOf 26 = .ok (.imul, 1) := by decide +kernel
theorem dX8_imageOf_27 : decode cX8_imageOf 27 = .ok (.iload 4, 2) := by decide +kernel
theorem dX8_imageOf_29 : decode cX8_imageOf 29 = .ok (.iadd, 1) := by decide +kernel
theorem dX8_imageOf_30 : decode cX8_imageOf 30 = .ok (.iaload, 1) := by decide +kernel
theorem dX8_imageOf_31 : decode cX8_imageOf 31 = .ok (.ishl, 1) := by decide +kernel
theorem dX8_imageOf_32 : decode cX8_imageOf 32 = .ok (.ior, 1) := by decide +kernel
theorem dX8_imageOf_33 : decode cX8_imageOf 33 = .ok (.istore_n 3, 1) := by decide +kernel
theorem dX8_imageOf_34 : decode cX8_imageOf 34 = .ok (.iinc 4 1, 3) := by decide +kernel
theorem dX8_imageOf_37 : decode cX8_imageOf 37 = .ok (.goto (-32), 3) := by decide +kernel
theorem dX8_imageOf_40 : decode cX8_imageOf 40 = .ok (.iload_n 3, 1) := by decide +kernel
theorem dX8_imageOf_41 : decode cX8_imageOf 41 = .ok (.ireturn, 1) := by decide +kernel
theorem dX8_likes_0 : decode cX8_likes 0 = .ok (.iconst 0, 1) := by decide +kernel
theorem dX8_likes_1 : decode cX8_likes 1 = .ok (.istore_n 2, 1) := by decide +kernel
theorem dX8_likes_2 : decode cX8_likes 2 = .ok (.iconst 0, 1) := by decide +kernel
theorem dX8_likes_3 : decode cX8_likes 3 = .ok (.istore_n 3, 1) := by decide +kernel
theorem dX8_likes_4 : decode cX8_likes 4 = .ok (.iload_n 3, 1) := by decide +kernel
theorem dX8_likes_5 : decode cX8_likes 5 = .ok (.sipush 256, 3) := by decide +kernel
theorem dX8_likes_8 : decode cX8_likes 8 = .ok (.if_icmp .ge 32, 3) := by decide +kernel
theorem dX8_likes_11 : decode cX8_likes 11 = .ok (.iload_n 2, 1) := by decide +kernel
theorem dX8_likes_12 : decode cX8_likes 12 = .ok (.aload_n 0, 1) := by decide +kernel
theorem dX8_likes_13 : decode cX8_likes 13 = .ok (.getfield 19, 3) := by decide +kernel
theorem dX8_likes_16 : decode cX8_likes 16 = .ok (.iload_n 3, 1) := by decide +kernel
theorem dX8_likes_17 : decode cX8_likes 17 = .ok (.iaload, 1) := by decide +kernel
theorem dX8_likes_18 : decode cX8_likes 18 = .ok (.aload_n 0, 1) := by decide +kernel
theorem dX8_likes_19 : decode cX8_likes 19 = .ok (.getfield 19, 3) := by decide +kernel
theorem dX8_likes_22 : decode cX8_likes 22 = .ok (.iload_n 1, 1) := by decide +kernel
theorem dX8_likes_23 : decode cX8_likes 23 = .ok (.iaload, 1) := by decide +kernel
theorem dX8_likes_24 : decode cX8_likes 24 = .ok (.if_icmp .ne 7, 3) := by decide +kernel
theorem dX8_likes_27 : decode cX8_likes 27 = .ok (.iconst 1, 1) := by decide +kernel
theorem dX8_likes_28 : decode cX8_likes 28 = .ok (.goto 4, 3) := by decide +kernel
theorem dX8_likes_31 : decode cX8_likes 31 = .ok (.iconst 0, 1) := by decide +kernel
theorem dX8_likes_32 : decode cX8_likes 32 = .ok (.iadd, 1) := by decide +kernel
theorem dX8_likes_33 : decode cX8_likes 33 = .ok (.istore_n 2, 1) := by decide +kernel
theorem dX8_likes_34 : decode cX8_likes 34 = .ok (.iinc 3 1, 3) := by decide +kernel
theorem dX8_likes_37 : decode cX8_likes 37 = .ok (.goto (-33), 3) := by decide +kernel
theorem dX8_likes_40 : decode cX8_likes 40 = .ok (.iload_n 2, 1) := by decide +kernel
theorem dX8_likes_41 : decode cX8_likes 41 = .ok (.ireturn, 1) := by decide +kernel
theorem dX8_stills_0 : decode cX8_stills 0 = .ok (.iconst 0, 1) := by decide +kernel
theorem dX8_stills_1 : decode cX8_stills 1 = .ok (.istore_n 2, 1) := by decide +kernel
theorem dX8_stills_2 : decode cX8_stills 2 = .ok (.iconst 0, 1) := by decide +kernel
theorem dX8_stills_3 : decode cX8_stills 3 = .ok (.istore_n 3, 1) := by decide +kernel
theorem dX8_stills_4 : decode cX8_stills 4 = .ok (.iload_n 3, 1) := by decide +kernel
theorem dX8_stills_5 : decode cX8_stills 5 = .ok (.bipush 48, 2) := by decide +kernel
theorem dX8_stills_7 : decode cX8_stills 7 = .ok (.if_icmp .ge 27, 3) := by decide +kernel
theorem dX8_stills_10 : decode cX8_stills 10 = .ok (.iload_n 2, 1) := by decide +kernel
theorem dX8_stills_11 : decode cX8_stills 11 = .ok (.aload_n 0, 1) := by decide +kernel
theorem dX8_stills_12 : decode cX8_stills 12 = .ok (.iload_n 1, 1) := by decide +kernel
theorem dX8_stills_13 : decode cX8_stills 13 = .ok (.iload_n 3, 1) := by decide +kernel
theorem dX8_stills_14 : decode cX8_stills 14 = .ok (.invokevirtual 81, 3) := by decide +kernel
theorem dX8_stills_17 : decode cX8_stills 17 = .ok (.iload_n 1, 1) := by decide +kernel
theorem dX8_stills_18 : decode cX8_stills 18 = .ok (.if_icmp .ne 7, 3) := by decide +kernel
theorem dX8_stills_21 : decode cX8_stills 21 = .ok (.iconst 1, 1) := by decide +kernel
theorem dX8_stills_22 : decode cX8_stills 22 = .ok (.goto 4, 3) := by decide +kernel
theorem dX8_stills_25 : decode cX8_stills 25 = .ok (.iconst 0, 1) := by decide +kernel
theorem dX8_stills_26 : decode cX8_stills 26 = .ok (.iadd, 1) := by decide +kernel
theorem dX8_stills_27 : decode cX8_stills 27 = .ok (.istore_n 2, 1) := by decide +kernel
theorem dX8_stills_28 : decode cX8_stills 28 = .ok (.iinc 3 1, 3) := by decide +kernel
theorem dX8_stills_31 : decode cX8_stills 31 = .ok (.goto (-27), 3) := by decide +kernel
theorem dX8_stills_34 : decode cX8_stills 34 = .ok (.iload_n 2, 1) := by decide +kernel
theorem dX8_stills_35 : decode cX8_stills 35 = .ok (.ireturn, 1) := by decide +kernel
theorem dX8_weightAt_0 : decode cX8_weightAt 0 = .ok (.iload_n 1, 1) := by decide +kernel
theorem dX8_weightAt_1 : decode cX8_weightAt 1 = .ok (.ifCond .ne 10, 3) := by decide +kernel
theorem dX8_weightAt_4 : decode cX8_weightAt 4 = .ok (.iload_n 0, 1) := by decide +kernel
theorem dX8_weightAt_5 : decode cX8_weightAt 5 = .ok (.bipush 49, 2) := by decide +kernel
theorem dX8_weightAt_7 : decode cX8_weightAt 7 = .ok (.idiv, 1) := by decide +kernel
theorem dX8_weightAt_8 : decode cX8_weightAt 8 = .ok (.goto 22, 3) := by decide +kernel
theorem dX8_weightAt_11 : decode cX8_weightAt 11 = .ok (.iload_n 1, 1) := by decide +kernel
theorem dX8_weightAt_12 : decode cX8_weightAt 12 = .ok (.iconst 1, 1) := by decide +kernel
theorem dX8_weightAt_13 : decode cX8_weightAt 13 = .ok (.if_icmp .ne 13, 3) := by decide +kernel
theorem dX8_weightAt_16 : decode cX8_weightAt 16 = .ok (.iload_n 0, 1) := by decide +kernel
theorem dX8_weightAt_17 : decode cX8_weightAt 17 = .ok (.bipush 7, 2) := by decide +kernel
theorem dX8_weightAt_19 : decode cX8_weightAt 19 = .ok (.idiv, 1) := by decide +kernel
theorem dX8_weightAt_20 : decode cX8_weightAt 20 = .ok (.bipush 7, 2) := by decide +kernel
theorem dX8_weightAt_22 : decode cX8_weightAt 22 = .ok (.irem, 1) := by decide +kernel
theorem dX8_weightAt_23 : decode cX8_weightAt 23 = .ok (.goto 7, 3) := by decide +kernel
theorem dX8_weightAt_26 : decode cX8_weightAt 26 = .ok (.iload_n 0, 1) := by decide +kernel
theorem dX8_weightAt_27 : decode cX8_weightAt 27 = .ok (.bipush 7, 2) := by decide +kernel
theorem dX8_weightAt_29 : decode cX8_weightAt 29 = .ok (.irem, 1) := by decide +kernel
theorem dX8_weightAt_30 : decode cX8_weightAt 30 = .ok (.iconst 3, 1) := by decide +kernel
theorem dX8_weightAt_31 : decode cX8_weightAt 31 = .ok (.isub, 1) := by decide +kernel
theorem dX8_weightAt_32 : decode cX8_weightAt 32 = .ok (.ireturn, 1) := by decide +kernel
theorem dX8_weighsAt_0 : decode cX8_weighsAt 0 = .ok (.iload_n 0, 1) := by decide +kernel
theorem dX8_weighsAt_1 : decode cX8_weighsAt 1 = .ok (.iconst 0, 1) := by decide +kernel
theorem dX8_weighsAt_2 : decode cX8_weighsAt 2 = .ok (.invokestatic 85, 3) := by decide +kernel
theorem dX8_weighsAt_5 : decode cX8_weighsAt 5 = .ok (.iload_n 1, 1) := by decide +kernel
theorem dX8_weighsAt_6 : decode cX8_weighsAt 6 = .ok (.imul, 1) := by decide +kernel
theorem dX8_weighsAt_7 : decode cX8_weighsAt 7 = .ok (.iload_n 0, 1) := by decide +kernel
theorem dX8_weighsAt_8 : decode cX8_weighsAt 8 = .ok (.iconst 1, 1) := by decide +kernel
theorem dX8_weighsAt_9 : decode cX8_weighsAt 9 = .ok (.invokestatic 85, 3) := by decide +kernel
theorem dX8_weighsAt_12 : decode cX8_weighsAt 12 = .ok (.iload_n 2, 1) := by decide +kernel
theorem dX8_weighsAt_13 : decode cX8_weighsAt 13 = .ok (.imul, 1) := by decide +kernel
theorem dX8_weighsAt_14 : decode cX8_weighsAt 14 = .ok (.iadd, 1) := by decide +kernel
theorem dX8_weighsAt_15 : decode cX8_weighsAt 15 = .ok (.iload_n 0, 1) := by decide +kernel
theorem dX8_weighsAt_16 : decode cX8_weighsAt 16 = .ok (.iconst 2, 1) := by decide +kernel
theorem dX8_weighsAt_17 : decode cX8_weighsAt 17 = .ok (.invokestatic 85, 3) := by decide +kernel
theorem dX8_weighsAt_20 : decode cX8_weighsAt 20 = .ok (.iload_n 3, 1) := by decide +kernel
theorem dX8_weighsAt_21 : decode cX8_weighsAt 21 = .ok (.imul, 1) := by decide +kernel
theorem dX8_weighsAt_22 : decode cX8_weighsAt 22 = .ok (.iadd, 1) := by decide +kernel
theorem dX8_weighsAt_23 : decode cX8_weighsAt 23 = .ok (.ireturn, 1) := by decide +kernel
theorem dX8_weighsCorner_0 : decode cX8_weighsCorner 0 = .ok (.iload_n 0, 1) := by decide +kernel
theorem dX8_weighsCorner_1 : decode cX8_weighsCorner 1 = .ok (.iload_n 1, 1) := by decide +kernel
theorem dX8_weighsCorner_2 : decode cX8_weighsCorner 2 = .ok (.iconst 1, 1) := by decide +kernel
theorem dX8_weighsCorner_3 : decode cX8_weighsCorner 3 = .ok (.iand, 1) := by decide +kernel
theorem dX8_weighsCorner_4 : decode cX8_weighsCorner 4 = .ok (.iload_n 1, 1) := by decide +kernel
theorem dX8_weighsCorner_5 : decode cX8_weighsCorner 5 = .ok (.iconst 1, 1) := by decide +kernel
theorem dX8_weighsCorner_6 : decode cX8_weighsCorner 6 = .ok (.ishr, 1) := by decide +kernel
theorem dX8_weighsCorner_7 : decode cX8_weighsCorner 7 = .ok (.iconst 1, 1) := by decide +kernel
theorem dX8_weighsCorner_8 : decode cX8_weighsCorner 8 = .ok (.iand, 1) := by decide +kernel
theorem dX8_weighsCorner_9 : decode cX8_weighsCorner 9 = .ok (.iload_n 1, 1) := by decide +kernel
theorem dX8_weighsCorner_10 : decode cX8_weighsCorner 10 = .ok (.iconst 2, 1) := by decide +kernel
theorem dX8_weighsCorner_11 : decode cX8_weighsCorner 11 = .ok (.ishr, 1) := by decide +kernel
theorem dX8_weighsCorner_12 : decode cX8_weighsCorner 12 = .ok (.iconst 1, 1) := by decide +kernel
theorem dX8_weighsCorner_13 : decode cX8_weighsCorner 13 = .ok (.iand, 1) := by decide +kernel
theorem dX8_weighsCorner_14 : decode cX8_weighsCorner 14 = .ok (.invokestatic 88, 3) := by decide +kernel
theorem dX8_weighsCorner_17 : decode cX8_weighsCorner 17 = .ok (.ireturn, 1) := by decide +kernel
theorem dX8_mostOf_0 : decode cX8_mostOf 0 = .ok (.bipush (-27), 2) := by decide +kernel
theorem dX8_mostOf_2 : decode cX8_mostOf 2 = .ok (.istore_n 2, 1) := by decide +kernel
theorem dX8_mostOf_3 : decode cX8_mostOf 3 = .ok (.iconst 0, 1) := by decide +kernel
theorem dX8_mostOf_4 : decode cX8_mostOf 4 = .ok (.istore_n 3, 1) := by decide +kernel
theorem dX8_mostOf_5 : decode cX8_mostOf 5 = .ok (.iload_n 3, 1) := by decide +kernel
theorem dX8_mostOf_6 : decode cX8_mostOf 6 = .ok (.bipush 8, 2) := by decide +kernel
theorem dX8_mostOf_8 : decode cX8_mostOf 8 = .ok (.if_icmp .ge 33, 3) := by decide +kernel
theorem dX8_mostOf_11 : decode cX8_mostOf 11 = .ok (.iload_n 0, 1) := by decide +kernel
theorem dX8_mostOf_12 : decode cX8_mostOf 12 = .ok (.iload_n 3, 1) := by decide +kernel
theorem dX8_mostOf_13 : decode cX8_mostOf 13 = .ok (.ishr, 1) := by decide +kernel
theorem dX8_mostOf_14 : decode cX8_mostOf 14 = .ok (.iconst 1, 1) := by decide +kernel
theorem dX8_mostOf_15 : decode cX8_mostOf 15 = .ok (.iand, 1) := by decide +kernel
theorem dX8_mostOf_16 : decode cX8_mostOf 16 = .ok (.iconst 1, 1) := by decide +kernel
theorem dX8_mostOf_17 : decode cX8_mostOf 17 = .ok (.if_icmp .ne 18, 3) := by decide +kernel
theorem dX8_mostOf_20 : decode cX8_mostOf 20 = .ok (.iload_n 1, 1) := by decide +kernel
theorem dX8_mostOf_21 : decode cX8_mostOf 21 = .ok (.iload_n 3, 1) := by decide +kernel
theorem dX8_mostOf_22 : decode cX8_mostOf 22 = .ok (.invokestatic 92, 3) := by decide +kernel
theorem dX8_mostOf_25 : decode cX8_mostOf 25 = .ok (.iload_n 2, 1) := by decide +kernel
theorem dX8_mostOf_26 : decode cX8_mostOf 26 = .ok (.if_icmp .le 9, 3) := by decide +kernel
theorem dX8_mostOf_29 : decode cX8_mostOf 29 = .ok (.iload_n 1, 1) := by decide +kernel
theorem dX8_mostOf_30 : decode cX8_mostOf 30 = .ok (.iload_n 3, 1) := by decide +kernel
theorem dX8_mostOf_31 : decode cX8_mostOf 31 = .ok (.invokestatic 92, 3) := by decide +kernel
theorem dX8_mostOf_34 : decode cX8_mostOf 34 = .ok (.istore_n 2, 1) := by decide +kernel
theorem dX8_mostOf_35 : decode cX8_mostOf 35 = .ok (.iinc 3 1, 3) := by decide +kernel
theorem dX8_mostOf_38 : decode cX8_mostOf 38 = .ok (.goto (-33), 3) := by decide +kernel
theorem dX8_mostOf_41 : decode cX8_mostOf 41 = .ok (.iload_n 2, 1) := by decide +kernel
theorem dX8_mostOf_42 : decode cX8_mostOf 42 = .ok (.ireturn, 1) := by decide +kernel
theorem dX8_leastOf_0 : decode cX8_leastOf 0 = .ok (.iload_n 0, 1) := by decide +kernel
theorem dX8_leastOf_1 : decode cX8_leastOf 1 = .ok (.sipush 342, 3) := by decide +kernel
theorem dX8_leastOf_4 : decode cX8_leastOf 4 = .ok (.iload_n 1, 1) := by decide +kernel
theorem dX8_leastOf_5 : decode cX8_leastOf 5 = .ok (.isub, 1) := by decide +kernel
theorem dX8_leastOf_6 : decode cX8_leastOf 6 = .ok (.invokestatic 95, 3) := by decide +kernel
theorem dX8_leastOf_9 : decode cX8_leastOf 9 = .ok (.ineg, 1) := by decide +kernel
theorem dX8_leastOf_10 : decode cX8_leastOf 10 = .ok (.ireturn, 1) := by decide +kernel
theorem dX8_heaviest_0 : decode cX8_heaviest 0 = .ok (.iload_n 0, 1) := by decide +kernel
theorem dX8_heaviest_1 : decode cX8_heaviest 1 = .ok (.iload_n 1, 1) := by decide +kernel
theorem dX8_heaviest_2 : decode cX8_heaviest 2 = .ok (.invokestatic 95, 3) := by decide +kernel
theorem dX8_heaviest_5 : decode cX8_heaviest 5 = .ok (.istore_n 2, 1) := by decide +kernel
theorem dX8_heaviest_6 : decode cX8_heaviest 6 = .ok (.iconst 0, 1) := by decide +kernel
theorem dX8_heaviest_7 : decode cX8_heaviest 7 = .ok (.istore_n 3, 1) := by decide +kernel
theorem dX8_heaviest_8 : decode cX8_heaviest 8 = .ok (.iconst 0, 1) := by decide +kernel
theorem dX8_heaviest_9 : decode cX8_heaviest 9 = .ok (.istore 4, 2) := by decide +kernel
theorem dX8_heaviest_11 : decode cX8_heaviest 11 = .ok (.iload 4, 2) := by decide +kernel
theorem dX8_heaviest_13 : decode cX8_heaviest 13 = .ok (.bipush 8, 2) := by decide +kernel
theorem dX8_heaviest_15 : decode cX8_heaviest 15 = .ok (.if_icmp .ge 40, 3) := by decide +kernel
theorem dX8_heaviest_18 : decode cX8_heaviest 18 = .ok (.iload_n 3, 1) := by decide +kernel
theorem dX8_heaviest_19 : decode cX8_heaviest 19 = .ok (.iload_n 0, 1) := by decide +kernel
theorem dX8_heaviest_20 : decode cX8_heaviest 20 = .ok (.iload 4, 2) := by decide +kernel
theorem dX8_heaviest_22 : decode cX8_heaviest 22 = .ok (.ishr, 1) := by decide +kernel
theorem dX8_heaviest_23 : decode cX8_heaviest 23 = .ok (.iconst 1, 1) := by decide +kernel
theorem dX8_heaviest_24 : decode cX8_heaviest 24 = .ok (.iand, 1) := by decide +kernel
theorem dX8_heaviest_25 : decode cX8_heaviest 25 = .ok (.iconst 1, 1) := by decide +kernel
theorem dX8_heaviest_26 : decode cX8_heaviest 26 = .ok (.if_icmp .ne 20, 3) := by decide +kernel
theorem dX8_heaviest_29 : decode cX8_heaviest 29 = .ok (.iload_n 1, 1) := by decide +kernel
theorem dX8_heaviest_30 : decode cX8_heaviest 30 = .ok (.iload 4, 2) := by decide +kernel
theorem dX8_heaviest_32 : decode cX8_heaviest 32 = .ok (.invokestatic 92, 3) := by decide +kernel
theorem dX8_heaviest_35 : decode cX8_heaviest 35 = .ok (.iload_n 2, 1) := by decide +kernel
theorem dX8_heaviest_36 : decode cX8_heaviest 36 = .ok (.if_icmp .ne 10, 3) := by decide +kernel
theorem dX8_heaviest_39 : decode cX8_heaviest 39 = .ok (.iconst 1, 1) := by decide +kernel
theorem dX8_heaviest_40 : decode cX8_heaviest 40 = .ok (.iload 4, 2) := by decide +kernel
theorem dX8_heaviest_42 : decode cX8_heaviest 42 = .ok (.ishl, 1) := by decide +kernel
theorem dX8_heaviest_43 : decode cX8_heaviest 43 = .ok (.goto 4, 3) := by decide +kernel
theorem dX8_heaviest_46 : decode cX8_heaviest 46 = .ok (.iconst 0, 1) := by decide +kernel
theorem dX8_heaviest_47 : decode cX8_heaviest 47 = .ok (.ior, 1) := by decide +kernel
theorem dX8_heaviest_48 : decode cX8_heaviest 48 = .ok (.istore_n 3, 1) := by decide +kernel
theorem dX8_heaviest_49 : decode cX8_heaviest 49 = .ok (.iinc 4 1, 3) := by decide +kernel
theorem dX8_heaviest_52 : decode cX8_heaviest 52 = .ok (.goto (-41), 3) := by decide +kernel
theorem dX8_heaviest_55 : decode cX8_heaviest 55 = .ok (.iload_n 3, 1) := by decide +kernel
theorem dX8_heaviest_56 : decode cX8_heaviest 56 = .ok (.ireturn, 1) := by decide +kernel
theorem dX8_isNought_0 : decode cX8_isNought 0 = .ok (.iload_n 0, 1) := by decide +kernel
theorem dX8_isNought_1 : decode cX8_isNought 1 = .ok (.sipush 171, 3) := by decide +kernel
theorem dX8_isNought_4 : decode cX8_isNought 4 = .ok (.if_icmp .ne 7, 3) := by decide +kernel
theorem dX8_isNought_7 : decode cX8_isNought 7 = .ok (.iconst 1, 1) := by decide +kernel
theorem dX8_isNought_8 : decode cX8_isNought 8 = .ok (.goto 4, 3) := by decide +kernel
theorem dX8_isNought_11 : decode cX8_isNought 11 = .ok (.iconst 0, 1) := by decide +kernel
theorem dX8_isNought_12 : decode cX8_isNought 12 = .ok (.ireturn, 1) := by decide +kernel
theorem dX8_findFaces_0 : decode cX8_findFaces 0 = .ok (.iconst 0, 1) := by decide +kernel
theorem dX8_findFaces_1 : decode cX8_findFaces 1 = .ok (.istore_n 2, 1) := by decide +kernel
theorem dX8_findFaces_2 : decode cX8_findFaces 2 = .ok (.iload_n 2, 1) := by decide +kernel
theorem dX8_findFaces_3 : decode cX8_findFaces 3 = .ok (.sipush 256, 3) := by decide +kernel
theorem dX8_findFaces_6 : decode cX8_findFaces 6 = .ok (.if_icmp .ge 16, 3) := by decide +kernel
theorem dX8_findFaces_9 : decode cX8_findFaces 9 = .ok (.aload_n 0, 1) := by decide +kernel
theorem dX8_findFaces_10 : decode cX8_findFaces 10 = .ok (.getfield 31, 3) := by decide +kernel
theorem dX8_findFaces_13 : decode cX8_findFaces 13 = .ok (.iload_n 2, 1) := by decide +kernel
theorem dX8_findFaces_14 : decode cX8_findFaces 14 = .ok (.iconst 0, 1) := by decide +kernel
theorem dX8_findFaces_15 : decode cX8_findFaces 15 = .ok (.bastore, 1) := by decide +kernel
theorem dX8_findFaces_16 : decode cX8_findFaces 16 = .ok (.iinc 2 1, 3) := by decide +kernel
theorem dX8_findFaces_19 : decode cX8_findFaces 19 = .ok (.goto (-17), 3) := by decide +kernel
theorem dX8_findFaces_22 : decode cX8_findFaces 22 = .ok (.iconst 0, 1) := by decide +kernel
theorem dX8_findFaces_23 : decode cX8_findFaces 23 = .ok (.istore_n 2, 1) := by decide +kernel
theorem dX8_findFaces_24 : decode cX8_findFaces 24 = .ok (.iload_n 2, 1) := by decide +kernel
theorem dX8_findFaces_25 : decode cX8_findFaces 25 = .ok (.sipush 343, 3) := by decide +kernel
theorem dX8_findFaces_28 : decode cX8_findFaces 28 = .ok (.if_icmp .ge 46, 3) := by decide +kernel
theorem dX8_findFaces_31 : decode cX8_findFaces 31 = .ok (.iload_n 1, 1) := by decide +kernel
theorem dX8_findFaces_32 : decode cX8_findFaces 32 = .ok (.ifCond .le 42, 3) := by decide +kernel
theorem dX8_findFaces_35 : decode cX8_findFaces 35 = .ok (.iload_n 1, 1) := by decide +kernel
theorem dX8_findFaces_36 : decode cX8_findFaces 36 = .ok (.iload_n 2, 1) := by decide +kernel
theorem dX8_findFaces_37 : decode cX8_findFaces 37 = .ok (.invokestatic 98, 3) := by decide +kernel
theorem dX8_findFaces_40 : decode cX8_findFaces 40 = .ok (.istore_n 3, 1) := by decide +kernel
theorem dX8_findFaces_41 : decode cX8_findFaces 41 = .ok (.iload_n 2, 1) := by decide +kernel
theorem dX8_findFaces_42 : decode cX8_findFaces 42 = .ok (.invokestatic 101, 3) := by decide +kernel
theorem dX8_findFaces_45 : decode cX8_findFaces 45 = .ok (.ifCond .ne 23, 3) := by decide +kernel
theorem dX8_findFaces_48 : decode cX8_findFaces 48 = .ok (.iload_n 3, 1) := by decide +kernel
theorem dX8_findFaces_49 : decode cX8_findFaces 49 = .ok (.iload_n 1, 1) := by decide +kernel
theorem dX8_findFaces_50 : decode cX8_findFaces 50 = .ok (.if_icmp .eq 18, 3) := by decide +kernel
theorem dX8_findFaces_53 : decode cX8_findFaces 53 = .ok (.iload_n 3, 1) := by decide +kernel
theorem dX8_findFaces_54 : decode cX8_findFaces 54 = .ok (.invokestatic 105, 3) := by decide +kernel
theorem dX8_findFaces_57 : decode cX8_findFaces 57 = .ok (.iconst 2, 1) := by decide +kernel
theorem dX8_findFaces_58 : decode cX8_findFaces 58 = .ok (.if_icmp .le 10, 3) := by decide +kernel
theorem dX8_findFaces_61 : decode cX8_findFaces 61 = .ok (.aload_n 0, 1) := by decide +kernel
theorem dX8_findFaces_62 : decode cX8_findFaces 62 = .ok (.getfield 31, 3) := by decide +kernel
theorem dX8_findFaces_65 : decode cX8_findFaces 65 = .ok (.iload_n 3, 1) := by decide +kernel
theorem dX8_findFaces_66 : decode cX8_findFaces 66 = .ok (.iconst 1, 1) := by decide +kernel
theorem dX8_findFaces_67 : decode cX8_findFaces 67 = .ok (.bastore, 1) := by decide +kernel
theorem dX8_findFaces_68 : decode cX8_findFaces 68 = .ok (.iinc 2 1, 3) := by decide +kernel
theorem dX8_findFaces_71 : decode cX8_findFaces 71 = .ok (.goto (-47), 3) := by decide +kernel
theorem dX8_findFaces_74 : decode cX8_findFaces 74 = .ok (.iconst 0, 1) := by decide +kernel
theorem dX8_findFaces_75 : decode cX8_findFaces 75 = .ok (.istore_n 2, 1) := by decide +kernel
theorem dX8_findFaces_76 : decode cX8_findFaces 76 = .ok (.iconst 0, 1) := by decide +kernel
theorem dX8_findFaces_77 : decode cX8_findFaces 77 = .ok (.istore_n 3, 1) := by decide +kernel
theorem dX8_findFaces_78 : decode cX8_findFaces 78 = .ok (.iload_n 3, 1) := by decide +kernel
theorem dX8_findFaces_79 : decode cX8_findFaces 79 = .ok (.sipush 256, 3) := by decide +kernel
theorem dX8_findFaces_82 : decode cX8_findFaces 82 = .ok (.if_icmp .ge 26, 3) := by decide +kernel
theorem dX8_findFaces_85 : decode cX8_findFaces 85 = .ok (.iload_n 2, 1) := by decide +kernel
theorem dX8_findFaces_86 : decode cX8_findFaces 86 = .ok (.aload_n 0, 1) := by decide +kernel
theorem dX8_findFaces_87 : decode cX8_findFaces 87 = .ok (.getfield 31, 3) := by decide +kernel
theorem dX8_findFaces_90 : decode cX8_findFaces 90 = .ok (.iload_n 3, 1) := by decide +kernel
theorem dX8_findFaces_91 : decode cX8_findFaces 91 = .ok (.baload, 1) := by decide +kernel
theorem dX8_findFaces_92 : decode cX8_findFaces 92 = .ok (.ifCond .eq 7, 3) := by decide +kernel
theorem dX8_findFaces_95 : decode cX8_findFaces 95 = .ok (.iconst 1, 1) := by decide +kernel
theorem dX8_findFaces_96 : decode cX8_findFaces 96 = .ok (.goto 4, 3) := by decide +kernel
theorem dX8_findFaces_99 : decode cX8_findFaces 99 = .ok (.iconst 0, 1) := by decide +kernel
theorem dX8_findFaces_100 : decode cX8_findFaces 100 = .ok (.iadd, 1) := by decide +kernel
theorem dX8_findFaces_101 : decode cX8_findFaces 101 = .ok (.istore_n 2, 1) := by decide +kernel
theorem dX8_findFaces_102 : decode cX8_findFaces 102 = .ok (.iinc 3 1, 3) := by decide +kernel
theorem dX8_findFaces_105 : decode cX8_findFaces 105 = .ok (.goto (-27), 3) := by decide +kernel
theorem dX8_findFaces_108 : decode cX8_findFaces 108 = .ok (.iload_n 2, 1) := by decide +kernel
theorem dX8_findFaces_109 : decode cX8_findFaces 109 = .ok (.ireturn, 1) := by decide +kernel
theorem dX8_isEdge_0 : decode cX8_isEdge 0 = .ok (.iconst 0, 1) := by decide +kernel
theorem dX8_isEdge_1 : decode cX8_isEdge 1 = .ok (.istore_n 3, 1) := by decide +kernel
theorem dX8_isEdge_2 : decode cX8_isEdge 2 = .ok (.iconst 0, 1) := by decide +kernel
theorem dX8_isEdge_3 : decode cX8_isEdge 3 = .ok (.istore 4, 2) := by decide +kernel
theorem dX8_isEdge_5 : decode cX8_isEdge 5 = .ok (.iload 4, 2) := by decide +kernel
theorem dX8_isEdge_7 : decode cX8_isEdge 7 = .ok (.sipush 343, 3) := by decide +kernel
theorem dX8_isEdge_10 : decode cX8_isEdge 10 = .ok (.if_icmp .ge 43, 3) := by decide +kernel
theorem dX8_isEdge_13 : decode cX8_isEdge 13 = .ok (.iload_n 3, 1) := by decide +kernel
theorem dX8_isEdge_14 : decode cX8_isEdge 14 = .ok (.ifCond .ne 39, 3) := by decide +kernel
theorem dX8_isEdge_17 : decode cX8_isEdge 17 = .ok (.iload 4, 2) := by decide +kernel
theorem dX8_isEdge_19 : decode cX8_isEdge 19 = .ok (.invokestatic 101, 3) := by decide +kernel
theorem dX8_isEdge_22 : decode cX8_isEdge 22 = .ok (.ifCond .ne 23, 3) := by decide +kernel
theorem dX8_isEdge_25 : decode cX8_isEdge 25 = .ok (.iload_n 0, 1) := by decide +kernel
theorem dX8_isEdge_26 : decode cX8_isEdge 26 = .ok (.iload 4, 2) := by decide +kernel
theorem dX8_isEdge_28 : decode cX8_isEdge 28 = .ok (.invokestatic 98, 3) := by decide +kernel
theorem dX8_isEdge_31 : decode cX8_isEdge 31 = .ok (.iconst 1, 1) := by decide +kernel
theorem dX8_isEdge_32 : decode cX8_isEdge 32 = .ok (.iload_n 1, 1) := by decide +kernel
theorem dX8_isEdge_33 : decode cX8_isEdge 33 = .ok (.ishl, 1) := by decide +kernel
theorem dX8_isEdge_34 : decode cX8_isEdge 34 = .ok (.iconst 1, 1) := by decide +kernel
theorem dX8_isEdge_35 : decode cX8_isEdge 35 = .ok (.iload_n 2, 1) := by decide +kernel
theorem dX8_isEdge_36 : decode cX8_isEdge 36 = .ok (.ishl, 1) := by decide +kernel
theorem dX8_isEdge_37 : decode cX8_isEdge 37 = .ok (.ior, 1) := by decide +kernel
theorem dX8_isEdge_38 : decode cX8_isEdge 38 = .ok (.if_icmp .ne 7, 3) := by decide +kernel
theorem dX8_isEdge_41 : decode cX8_isEdge 41 = .ok (.iconst 1, 1) := by decide +kernel
theorem dX8_isEdge_42 : decode cX8_isEdge 42 = .ok (.goto 4, 3) := by decide +kernel
theorem dX8_isEdge_45 : decode cX8_isEdge 45 = .ok (.iconst 0, 1) := by decide +kernel
theorem dX8_isEdge_46 : decode cX8_isEdge 46 = .ok (.istore_n 3, 1) := by decide +kernel
theorem dX8_isEdge_47 : decode cX8_isEdge 47 = .ok (.iinc 4 1, 3) := by decide +kernel
theorem dX8_isEdge_50 : decode cX8_isEdge 50 = .ok (.goto (-45), 3) := by decide +kernel
theorem dX8_isEdge_53 : decode cX8_isEdge 53 = .ok (.iload_n 3, 1) := by decide +kernel
theorem dX8_isEdge_54 : decode cX8_isEdge 54 = .ok (.ireturn, 1) := by decide +kernel
theorem dX8_edgesOf_0 : decode cX8_edgesOf 0 = .ok (.iconst 0, 1) := by decide +kernel
theorem dX8_edgesOf_1 : decode cX8_edgesOf 1 = .ok (.istore_n 1, 1) := by decide +kernel
theorem dX8_edgesOf_2 : decode cX8_edgesOf 2 = .ok (.iconst 0, 1) := by decide +kernel
theorem dX8_edgesOf_3 : decode cX8_edgesOf 3 = .ok (.istore_n 2, 1) := by decide +kernel
theorem dX8_edgesOf_4 : decode cX8_edgesOf 4 = .ok (.iload_n 2, 1) := by decide +kernel
theorem dX8_edgesOf_5 : decode cX8_edgesOf 5 = .ok (.bipush 8, 2) := by decide +kernel
theorem dX8_edgesOf_7 : decode cX8_edgesOf 7 = .ok (.if_icmp .ge 55, 3) := by decide +kernel
theorem dX8_edgesOf_10 : decode cX8_edgesOf 10 = .ok (.iload_n 2, 1) := by decide +kernel
theorem dX8_edgesOf_11 : decode cX8_edgesOf 11 = .ok (.iconst 1, 1) := by decide +kernel
theorem dX8_edgesOf_12 : decode cX8_edgesOf 12 = .ok (.iadd, 1) := by decide +kernel
theorem dX8_edgesOf_13 : decode cX8_edgesOf 13 = .ok (.istore_n 3, 1) := by decide +kernel
theorem dX8_edgesOf_14 : decode cX8_edgesOf 14 = .ok (.iload_n 3, 1) := by decide +kernel
theorem dX8_edgesOf_15 : decode cX8_edgesOf 15 = .ok (.bipush 8, 2) := by decide +kernel
theorem dX8_edgesOf_17 : decode cX8_edgesOf 17 = .ok (.if_icmp .ge 39, 3) := by decide +kernel
theorem dX8_edgesOf_20 : decode cX8_edgesOf 20 = .ok (.iload_n 1, 1) := by decide +kernel
theorem dX8_edgesOf_21 : decode cX8_edgesOf 21 = .ok (.iload_n 0, 1) := by decide +kernel
theorem dX8_edgesOf_22 : decode cX8_edgesOf 22 = .ok (.iload_n 2, 1) := by decide +kernel
theorem dX8_edgesOf_23 : decode cX8_edgesOf 23 = .ok (.ishr, 1) := by decide +kernel
theorem dX8_edgesOf_24 : decode cX8_edgesOf 24 = .ok (.iload_n 0, 1) := by decide +kernel
theorem dX8_edgesOf_25 : decode cX8_edgesOf 25 = .ok (.iload_n 3, 1) := by decide +kernel
theorem dX8_edgesOf_26 : decode cX8_edgesOf 26 = .ok (.ishr, 1) := by decide +kernel
theorem dX8_edgesOf_27 : decode cX8_edgesOf 27 = .ok (.iand, 1) := by decide +kernel
theorem dX8_edgesOf_28 : decode cX8_edgesOf 28 = .ok (.iconst 1, 1) := by decide +kernel
theorem dX8_edgesOf_29 : decode cX8_edgesOf 29 = .ok (.iand, 1) := by decide +kernel
theorem dX8_edgesOf_30 : decode cX8_edgesOf 30 = .ok (.iconst 1, 1) := by decide +kernel
theorem dX8_edgesOf_31 : decode cX8_edgesOf 31 = .ok (.if_icmp .ne 16, 3) := by decide +kernel
theorem dX8_edgesOf_34 : decode cX8_edgesOf 34 = .ok (.iload_n 0, 1) := by decide +kernel
theorem dX8_edgesOf_35 : decode cX8_edgesOf 35 = .ok (.iload_n 2, 1) := by decide +kernel
theorem dX8_edgesOf_36 : decode cX8_edgesOf 36 = .ok (.iload_n 3, 1) := by decide +kernel
theorem dX8_edgesOf_37 : decode cX8_edgesOf 37 = .ok (.invokestatic 109, 3) := by decide +kernel
theorem dX8_edgesOf_40 : decode cX8_edgesOf 40 = .ok (.ifCond .eq 7, 3) := by decide +kernel
theorem dX8_edgesOf_43 : decode cX8_edgesOf 43 = .ok (.iconst 1, 1) := by decide +kernel
theorem dX8_edgesOf_44 : decode cX8_edgesOf 44 = .ok (.goto 4, 3) := by decide +kernel
theorem dX8_edgesOf_47 : decode cX8_edgesOf 47 = .ok (.iconst 0, 1) := by decide +kernel
theorem dX8_edgesOf_48 : decode cX8_edgesOf 48 = .ok (.iadd, 1) := by decide +kernel
theorem dX8_edgesOf_49 : decode cX8_edgesOf 49 = .ok (.istore_n 1, 1) := by decide +kernel
theorem dX8_edgesOf_50 : decode cX8_edgesOf 50 = .ok (.iinc 3 1, 3) := by decide +kernel
theorem dX8_edgesOf_53 : decode cX8_edgesOf 53 = .ok (.goto (-39), 3) := by decide +kernel
theorem dX8_edgesOf_56 : decode cX8_edgesOf 56 = .ok (.iinc 2 1, 3) := by decide +kernel
theorem dX8_edgesOf_59 : decode cX8_edgesOf 59 = .ok (.goto (-55), 3) := by decide +kernel
theorem dX8_edgesOf_62 : decode cX8_edgesOf 62 = .ok (.iload_n 1, 1) := by decide +kernel
theorem dX8_edgesOf_63 : decode cX8_edgesOf 63 = .ok (.ireturn, 1) := by decide +kernel
theorem dX8_dimension_0 : decode cX8_dimension 0 = .ok (.iload_n 1, 1) := by decide +kernel
theorem dX8_dimension_1 : decode cX8_dimension 1 = .ok (.ifCond .ne 5, 3) := by decide +kernel
theorem dX8_dimension_4 : decode cX8_dimension 4 = .ok (.iconst (-1), 1) := by decide +kernel
theorem dX8_dimension_5 : decode cX8_dimension 5 = .ok (.ireturn, 1) := by decide +kernel
theorem dX8_dimension_6 : decode cX8_dimension 6 = .ok (.iconst 0, 1) := by decide +kernel
theorem dX8_dimension_7 : decode cX8_dimension 7 = .ok (.istore_n 2, 1) := by decide +kernel
theorem dX8_dimension_8 : decode cX8_dimension 8 = .ok (.iload_n 1, 1) := by decide +kernel
theorem dX8_dimension_9 : decode cX8_dimension 9 = .ok (.iload_n 2, 1) := by decide +kernel
theorem dX8_dimension_10 : decode cX8_dimension 10 = .ok (.ishr, 1) := by decide +kernel
theorem dX8_dimension_11 : decode cX8_dimension 11 = .ok (.iconst 1, 1) := by decide +kernel
theorem dX8_dimension_12 : decode cX8_dimension 12 = .ok (.iand, 1) := by decide +kernel
theorem dX8_dimension_13 : decode cX8_dimension 13 = .ok (.ifCond .ne 9, 3) := by decide +kernel
theorem dX8_dimension_16 : decode cX8_dimension 16 = .ok (.iinc 2 1, 3) := by decide +kernel
theorem dX8_dimension_19 : decode cX8_dimension 19 = .ok (.goto (-11), 3) := by decide +kernel
theorem dX8_dimension_22 : decode cX8_dimension 22 = .ok (.iconst 0, 1) := by decide +kernel
theorem dX8_dimension_23 : decode cX8_dimension 23 = .ok (.istore_n 3, 1) := by decide +kernel
theorem dX8_dimension_24 : decode cX8_dimension 24 = .ok (.iload_n 2, 1) := by decide +kernel
theorem dX8_dimension_25 : decode cX8_dimension 25 = .ok (.iconst 1, 1) := by decide +kernel
theorem dX8_dimension_26 : decode cX8_dimension 26 = .ok (.iadd, 1) := by decide +kernel
theorem dX8_dimension_27 : decode cX8_dimension 27 = .ok (.istore 4, 2) := by decide +kernel
theorem dX8_dimension_29 : decode cX8_dimension 29 = .ok (.iload 4, 2) := by decide +kernel
theorem dX8_dimension_31 : decode cX8_dimension 31 = .ok (.bipush 8, 2) := by decide +kernel
theorem dX8_dimension_33 : decode cX8_dimension 33 = .ok (.if_icmp .ge 64, 3) := by decide +kernel
theorem dX8_dimension_36 : decode cX8_dimension 36 = .ok (.iload_n 1, 1) := by decide +kernel
theorem dX8_dimension_37 : decode cX8_dimension 37 = .ok (.iload 4, 2) := by decide +kernel
theorem dX8_dimension_39 : decode cX8_dimension 39 = .ok (.ishr, 1) := by decide +kernel
theorem dX8_dimension_40 : decode cX8_dimension 40 = .ok (.iconst 1, 1) := by decide +kernel
theorem dX8_dimension_41 : decode cX8_dimension 41 = .ok (.iand, 1) := by decide +kernel
theorem dX8_dimension_42 : decode cX8_dimension 42 = .ok (.ifCond .ne 6, 3) := by decide +kernel
theorem dX8_dimension_45 : decode cX8_dimension 45 = .ok (.goto 46, 3) := by decide +kernel
theorem dX8_dimension_48 : decode cX8_dimension 48 = .ok (.iconst 0, 1) := by decide +kernel
theorem dX8_dimension_49 : decode cX8_dimension 49 = .ok (.istore 5, 2) := by decide +kernel
theorem dX8_dimension_51 : decode cX8_dimension 51 = .ok (.iload 5, 2) := by decide +kernel
theorem dX8_dimension_53 : decode cX8_dimension 53 = .ok (.iconst 3, 1) := by decide +kernel
theorem dX8_dimension_54 : decode cX8_dimension 54 = .ok (.if_icmp .ge 34, 3) := by decide +kernel
theorem dX8_dimension_57 : decode cX8_dimension 57 = .ok (.aload_n 0, 1) := by decide +kernel
theorem dX8_dimension_58 : decode cX8_dimension 58 = .ok (.getfield 35, 3) := by decide +kernel
theorem dX8_dimension_61 : decode cX8_dimension 61 = .ok (.iconst 3, 1) := by decide +kernel
theorem dX8_dimension_62 : decode cX8_dimension 62 = .ok (.iload_n 3, 1) := by decide +kernel
theorem dX8_dimension_63 : decode cX8_dimension 63 = .ok (.imul, 1) := by decide +kernel
theorem dX8_dimension_64 : decode cX8_dimension 64 = .ok (.iload 5, 2) := by decide +kernel
theorem dX8_dimension_66 : decode cX8_dimension 66 = .ok (.iadd, 1) := by decide +kernel
theorem dX8_dimension_67 : decode cX8_dimension 67 = .ok (.iload 4, 2) := by decide +kernel
theorem dX8_dimension_69 : decode cX8_dimension 69 = .ok (.iload 5, 2) := by decide +kernel
theorem dX8_dimension_71 : decode cX8_dimension 71 = .ok (.ishr, 1) := by decide +kernel
theorem dX8_dimension_72 : decode cX8_dimension 72 = .ok (.iconst 1, 1) := by decide +kernel
theorem dX8_dimension_73 : decode cX8_dimension 73 = .ok (.iand, 1) := by decide +kernel
theorem dX8_dimension_74 : decode cX8_dimension 74 = .ok (.iload_n 2, 1) := by decide +kernel
theorem dX8_dimension_75 : decode cX8_dimension 75 = .ok (.iload 5, 2) := by decide +kernel
theorem dX8_dimension_77 : decode cX8_dimension 77 = .ok (.ishr, 1) := by decide +kernel
theorem dX8_dimension_78 : decode cX8_dimension 78 = .ok (.iconst 1, 1) := by decide +kernel
theorem dX8_dimension_79 : decode cX8_dimension 79 = .ok (.iand, 1) := by decide +kernel
theorem dX8_dimension_80 : decode cX8_dimension 80 = .ok (.isub, 1) := by decide +kernel
theorem dX8_dimension_81 : decode cX8_dimension 81 = .ok (.iastore, 1) := by decide +kernel
theorem dX8_dimension_82 : decode cX8_dimension 82 = .ok (.iinc 5 1, 3) := by decide +kernel
theorem dX8_dimension_85 : decode cX8_dimension 85 = .ok (.goto (-34), 3) := by decide +kernel
theorem dX8_dimension_88 : decode cX8_dimension 88 = .ok (.iinc 3 1, 3) := by decide +kernel
theorem dX8_dimension_91 : decode cX8_dimension 91 = .ok (.iinc 4 1, 3) := by decide +kernel
theorem dX8_dimension_94 : decode cX8_dimension 94 = .ok (.goto (-65), 3) := by decide +kernel
theorem dX8_dimension_97 : decode cX8_dimension 97 = .ok (.iconst 0, 1) := by decide +kernel
theorem dX8_dimension_98 : decode cX8_dimension 98 = .ok (.istore 4, 2) := by decide +kernel
theorem dX8_dimension_100 : decode cX8_dimension 100 = .ok (.iconst 0, 1) := by decide +kernel
theorem dX8_dimension_101 : decode cX8_dimension 101 = .ok (.istore 5, 2) := by decide +kernel
theorem dX8_dimension_103 : decode cX8_dimension 103 = .ok (.iload 5, 2) := by decide +kernel
theorem dX8_dimension_105 : decode cX8_dimension 105 = .ok (.iconst 3, 1) := by decide +kernel
theorem dX8_dimension_106 : decode cX8_dimension 106 = .ok (.if_icmp .ge 219, 3) := by decide +kernel
theorem dX8_dimension_109 : decode cX8_dimension 109 = .ok (.iload 4, 2) := by decide +kernel
theorem dX8_dimension_111 : decode cX8_dimension 111 = .ok (.istore 6, 2) := by decide +kernel
theorem dX8_dimension_113 : decode cX8_dimension 113 = .ok (.iload 6, 2) := by decide +kernel
theorem dX8_dimension_115 : decode cX8_dimension 115 = .ok (.iload_n 3, 1) := by decide +kernel
theorem dX8_dimension_116 : decode cX8_dimension 116 = .ok (.if_icmp .ge 24, 3) := by decide +kernel
theorem dX8_dimension_119 : decode cX8_dimension 119 = .ok (.aload_n 0, 1) := by decide +kernel
theorem dX8_dimension_120 : decode cX8_dimension 120 = .ok (.getfield 35, 3) := by decide +kernel
theorem dX8_dimension_123 : decode cX8_dimension 123 = .ok (.iconst 3, 1) := by decide +kernel
theorem dX8_dimension_124 : decode cX8_dimension 124 = .ok (.iload 6, 2) := by decide +kernel
theorem dX8_dimension_126 : decode cX8_dimension 126 = .ok (.imul, 1) := by decide +kernel
theorem dX8_dimension_127 : decode cX8_dimension 127 = .ok (.iload 5, 2) := by decide +kernel
theorem dX8_dimension_129 : decode cX8_dimension 129 = .ok (.iadd, 1) := by decide +kernel
theorem dX8_dimension_130 : decode cX8_dimension 130 = .ok (.iaload, 1) := by decide +kernel
theorem dX8_dimension_131 : decode cX8_dimension 131 = .ok (.ifCond .ne 9, 3) := by decide +kernel
theorem dX8_dimension_134 : decode cX8_dimension 134 = .ok (.iinc 6 1, 3) := by decide +kernel
theorem dX8_dimension_137 : decode cX8_dimension 137 = .ok (.goto (-24), 3) := by decide +kernel
theorem dX8_dimension_140 : decode cX8_dimension 140 = .ok (.iload 6, 2) := by decide +kernel
theorem dX8_dimension_142 : decode cX8_dimension 142 = .ok (.iload_n 3, 1) := by decide +kernel
theorem dX8_dimension_143 : decode cX8_dimension 143 = .ok (.if_icmp .ne 6, 3) := by decide +kernel
theorem dX8_dimension_146 : decode cX8_dimension 146 = .ok (.goto 173, 3) := by decide +kernel
theorem dX8_dimension_149 : decode cX8_dimension 149 = .ok (.iconst 0, 1) := by decide +kernel
theorem dX8_dimension_150 : decode cX8_dimension 150 = .ok (.istore 7, 2) := by decide +kernel
theorem dX8_dimension_152 : decode cX8_dimension 152 = .ok (.iload 7, 2) := by decide +kernel
theorem dX8_dimension_154 : decode cX8_dimension 154 = .ok (.iconst 3, 1) := by decide +kernel
theorem dX8_dimension_155 : decode cX8_dimension 155 = .ok (.if_icmp .ge 61, 3) := by decide +kernel
theorem dX8_dimension_158 : decode cX8_dimension 158 = .ok (.aload_n 0, 1) := by decide +kernel
theorem dX8_dimension_159 : decode cX8_dimension 159 = .ok (.getfield 35, 3) := by decide +kernel
theorem dX8_dimension_162 : decode cX8_dimension 162 = .ok (.iconst 3, 1) := by decide +kernel
theorem dX8_dimension_163 : decode cX8_dimension 163 = .ok (.iload 6, 2) := by decide +kernel
theorem dX8_dimension_165 : decode cX8_dimension 165 = .ok (.imul, 1) := by decide +kernel
theorem dX8_dimension_166 : decode cX8_dimension 166 = .ok (.iload 7, 2) := by decide +kernel
theorem dX8_dimension_168 : decode cX8_dimension 168 = .ok (.iadd, 1) := by decide +kernel
theorem dX8_dimension_169 : decode cX8_dimension 169 = .ok (.iaload, 1) := by decide +kernel
theorem dX8_dimension_170 : decode cX8_dimension 170 = .ok (.istore 8, 2) := by decide +kernel
theorem dX8_dimension_172 : decode cX8_dimension 172 = .ok (.aload_n 0, 1) := by decide +kernel
theorem dX8_dimension_173 : decode cX8_dimension 173 = .ok (.getfield 35, 3) := by decide +kernel
theorem dX8_dimension_176 : decode cX8_dimension 176 = .ok (.iconst 3, 1) := by decide +kernel
theorem dX8_dimension_177 : decode cX8_dimension 177 = .ok (.iload 6, 2) := by decide +kernel
theorem dX8_dimension_179 : decode cX8_dimension 179 = .ok (.imul, 1) := by decide +kernel
theorem dX8_dimension_180 : decode cX8_dimension 180 = .ok (.iload 7, 2) := by decide +kernel
theorem dX8_dimension_182 : decode cX8_dimension 182 = .ok (.iadd, 1) := by decide +kernel
theorem dX8_dimension_183 : decode cX8_dimension 183 = .ok (.aload_n 0, 1) := by decide +kernel
theorem dX8_dimension_184 : decode cX8_dimension 184 = .ok (.getfield 35, 3) := by decide +kernel
theorem dX8_dimension_187 : decode cX8_dimension 187 = .ok (.iconst 3, 1) := by decide +kernel
theorem dX8_dimension_188 : decode cX8_dimension 188 = .ok (.iload 4, 2) := by decide +kernel
theorem dX8_dimension_190 : decode cX8_dimension 190 = .ok (.imul, 1) := by decide +kernel
theorem dX8_dimension_191 : decode cX8_dimension 191 = .ok (.iload 7, 2) := by decide +kernel
theorem dX8_dimension_193 : decode cX8_dimension 193 = .ok (.iadd, 1) := by decide +kernel
theorem dX8_dimension_194 : decode cX8_dimension 194 = .ok (.iaload, 1) := by decide +kernel
theorem dX8_dimension_195 : decode cX8_dimension 195 = .ok (.iastore, 1) := by decide +kernel
theorem dX8_dimension_196 : decode cX8_dimension 196 = .ok (.aload_n 0, 1) := by decide +kernel
theorem dX8_dimension_197 : decode cX8_dimension 197 = .ok (.getfield 35, 3) := by decide +kernel
theorem dX8_dimension_200 : decode cX8_dimension 200 = .ok (.iconst 3, 1) := by decide +kernel
theorem dX8_dimension_201 : decode cX8_dimension 201 = .ok (.iload 4, 2) := by decide +kernel
theorem dX8_dimension_203 : decode cX8_dimension 203 = .ok (.imul, 1) := by decide +kernel
theorem dX8_dimension_204 : decode cX8_dimension 204 = .ok (.iload 7, 2) := by decide +kernel
theorem dX8_dimension_206 : decode cX8_dimension 206 = .ok (.iadd, 1) := by decide +kernel
theorem dX8_dimension_207 : decode cX8_dimension 207 = .ok (.iload 8, 2) := by decide +kernel
theorem dX8_dimension_209 : decode cX8_dimension 209 = .ok (.iastore, 1) := by decide +kernel
theorem dX8_dimension_210 : decode cX8_dimension 210 = .ok (.iinc 7 1, 3) := by decide +kernel
theorem dX8_dimension_213 : decode cX8_dimension 213 = .ok (.goto (-61), 3) := by decide +kernel
theorem dX8_dimension_216 : decode cX8_dimension 216 = .ok (.iload 4, 2) := by decide +kernel
theorem dX8_dimension_218 : decode cX8_dimension 218 = .ok (.iconst 1, 1) := by decide +kernel
theorem dX8_dimension_219 : decode cX8_dimension 219 = .ok (.iadd, 1) := by decide +kernel
theorem dX8_dimension_220 : decode cX8_dimension 220 = .ok (.istore 7, 2) := by decide +kernel
theorem dX8_dimension_222 : decode cX8_dimension 222 = .ok (.iload 7, 2) := by decide +kernel
theorem dX8_dimension_224 : decode cX8_dimension 224 = .ok (.iload_n 3, 1) := by decide +kernel
theorem dX8_dimension_225 : decode cX8_dimension 225 = .ok (.if_icmp .ge 91, 3) := by decide +kernel
theorem dX8_dimension_228 : decode cX8_dimension 228 = .ok (.aload_n 0, 1) := by decide +kernel
theorem dX8_dimension_229 : decode cX8_dimension 229 = .ok (.getfield 35, 3) := by decide +kernel
theorem dX8_dimension_232 : decode cX8_dimension 232 = .ok (.iconst 3, 1) := by decide +kernel
theorem dX8_dimension_233 : decode cX8_dimension 233 = .ok (.iload 7, 2) := by decide +kernel
theorem dX8_dimension_235 : decode cX8_dimension 235 = .ok (.imul, 1) := by decide +kernel
theorem dX8_dimension_236 : decode cX8_dimension 236 = .ok (.iload 5, 2) := by decide +kernel
theorem dX8_dimension_238 : decode cX8_dimension 238 = .ok (.iadd, 1) := by decide +kernel
theorem dX8_dimension_239 : decode cX8_dimension 239 = .ok (.iaload, 1) := by decide +kernel
theorem dX8_dimension_240 : decode cX8_dimension 240 = .ok (.istore 8, 2) := by decide +kernel
theorem dX8_dimension_242 : decode cX8_dimension 242 = .ok (.iconst 0, 1) := by decide +kernel
theorem dX8_dimension_243 : decode cX8_dimension 243 = .ok (.istore 9, 2) := by decide +kernel
theorem dX8_dimension_245 : decode cX8_dimension 245 = .ok (.iload 9, 2) := by decide +kernel
theorem dX8_dimension_247 : decode cX8_dimension 247 = .ok (.iconst 3, 1) := by decide +kernel
theorem dX8_dimension_248 : decode cX8_dimension 248 = .ok (.if_icmp .ge 62, 3) := by decide +kernel
theorem dX8_dimension_251 : decode cX8_dimension 251 = .ok (.aload_n 0, 1) := by decide +kernel
theorem dX8_dimension_252 : decode cX8_dimension 252 = .ok (.getfield 35, 3) := by decide +kernel
theorem dX8_dimension_255 : decode cX8_dimension 255 = .ok (.iconst 3, 1) := by decide +kernel
theorem dX8_dimension_256 : decode cX8_dimension 256 = .ok (.iload 7, 2) := by decide +kernel
theorem dX8_dimension_258 : decode cX8_dimension 258 = .ok (.imul, 1) := by decide +kernel
theorem dX8_dimension_259 : decode cX8_dimension 259 = .ok (.iload 9, 2) := by decide +kernel
theorem dX8_dimension_261 : decode cX8_dimension 261 = .ok (.iadd, 1) := by decide +kernel
theorem dX8_dimension_262 : decode cX8_dimension 262 = .ok (.aload_n 0, 1) := by decide +kernel
theorem dX8_dimension_263 : decode cX8_dimension 263 = .ok (.getfield 35, 3) := by decide +kernel
theorem dX8_dimension_266 : decode cX8_dimension 266 = .ok (.iconst 3, 1) := by decide +kernel
theorem dX8_dimension_267 : decode cX8_dimension 267 = .ok (.iload 7, 2) := by decide +kernel
theorem dX8_dimension_269 : decode cX8_dimension 269 = .ok (.imul, 1) := by decide +kernel
theorem dX8_dimension_270 : decode cX8_dimension 270 = .ok (.iload 9, 2) := by decide +kernel
theorem dX8_dimension_272 : decode cX8_dimension 272 = .ok (.iadd, 1) := by decide +kernel
theorem dX8_dimension_273 : decode cX8_dimension 273 = .ok (.iaload, 1) := by decide +kernel
theorem dX8_dimension_274 : decode cX8_dimension 274 = .ok (.aload_n 0, 1) := by decide +kernel
theorem dX8_dimension_275 : decode cX8_dimension 275 = .ok (.getfield 35, 3) := by decide +kernel
theorem dX8_dimension_278 : decode cX8_dimension 278 = .ok (.iconst 3, 1) := by decide +kernel
theorem dX8_dimension_279 : decode cX8_dimension 279 = .ok (.iload 4, 2) := by decide +kernel
theorem dX8_dimension_281 : decode cX8_dimension 281 = .ok (.imul, 1) := by decide +kernel
theorem dX8_dimension_282 : decode cX8_dimension 282 = .ok (.iload 5, 2) := by decide +kernel
theorem dX8_dimension_284 : decode cX8_dimension 284 = .ok (.iadd, 1) := by decide +kernel
theorem dX8_dimension_285 : decode cX8_dimension 285 = .ok (.iaload, 1) := by decide +kernel
theorem dX8_dimension_286 : decode cX8_dimension 286 = .ok (.imul, 1) := by decide +kernel
theorem dX8_dimension_287 : decode cX8_dimension 287 = .ok (.iload 8, 2) := by decide +kernel
theorem dX8_dimension_289 : decode cX8_dimension 289 = .ok (.aload_n 0, 1) := by decide +kernel
theorem dX8_dimension_290 : decode cX8_dimension 290 = .ok (.getfield 35, 3) := by decide +kernel
theorem dX8_dimension_293 : decode cX8_dimension 293 = .ok (.iconst 3, 1) := by decide +kernel
theorem dX8_dimension_294 : decode cX8_dimension 294 = .ok (.iload 4, 2) := by decide +kernel
theorem dX8_dimension_296 : decode cX8_dimension 296 = .ok (.imul, 1) := by decide +kernel
theorem dX8_dimension_297 : decode cX8_dimension 297 = .ok (.iload 9, 2) := by decide +kernel
theorem dX8_dimension_299 : decode cX8_dimension 299 = .ok (.iadd, 1) := by decide +kernel
theorem dX8_dimension_300 : decode cX8_dimension 300 = .ok (.iaload, 1) := by decide +kernel
theorem dX8_dimension_301 : decode cX8_dimension 301 = .ok (.imul, 1) := by decide +kernel
theorem dX8_dimension_302 : decode cX8_dimension 302 = .ok (.isub, 1) := by decide +kernel
theorem dX8_dimension_303 : decode cX8_dimension 303 = .ok (.iastore, 1) := by decide +kernel
theorem dX8_dimension_304 : decode cX8_dimension 304 = .ok (.iinc 9 1, 3) := by decide +kernel
theorem dX8_dimension_307 : decode cX8_dimension 307 = .ok (.goto (-62), 3) := by decide +kernel
theorem dX8_dimension_310 : decode cX8_dimension 310 = .ok (.iinc 7 1, 3) := by decide +kernel
theorem dX8_dimension_313 : decode cX8_dimension 313 = .ok (.goto (-91), 3) := by decide +kernel
theorem dX8_dimension_316 : decode cX8_dimension 316 = .ok (.iinc 4 1, 3) := by decide +kernel
theorem dX8_dimension_319 : decode cX8_dimension 319 = .ok (.iinc 5 1, 3) := by decide +kernel
theorem dX8_dimension_322 : decode cX8_dimension 322 = .ok (.goto (-219), 3) := by decide +kernel
theorem dX8_dimension_325 : decode cX8_dimension 325 = .ok (.iload 4, 2) := by decide +kernel
theorem dX8_dimension_327 : decode cX8_dimension 327 = .ok (.ireturn, 1) := by decide +kernel
theorem dX8_isWithin_0 : decode cX8_isWithin 0 = .ok (.iconst 1, 1) := by decide +kernel
theorem dX8_isWithin_1 : decode cX8_isWithin 1 = .ok (.istore 5, 2) := by decide +kernel
theorem dX8_isWithin_3 : decode cX8_isWithin 3 = .ok (.iconst 0, 1) := by decide +kernel
theorem dX8_isWithin_4 : decode cX8_isWithin 4 = .ok (.istore 6, 2) := by decide +kernel
theorem dX8_isWithin_6 : decode cX8_isWithin 6 = .ok (.iload 6, 2) := by decide +kernel
theorem dX8_isWithin_8 : decode cX8_isWithin 8 = .ok (.sipush 343, 3) := by decide +kernel
theorem dX8_isWithin_11 : decode cX8_isWithin 11 = .ok (.if_icmp .ge 41, 3) := by decide +kernel
theorem dX8_isWithin_14 : decode cX8_isWithin 14 = .ok (.iload 5, 2) := by decide +kernel
theorem dX8_isWithin_16 : decode cX8_isWithin 16 = .ok (.ifCond .eq 36, 3) := by decide +kernel
theorem dX8_isWithin_19 : decode cX8_isWithin 19 = .ok (.iload 6, 2) := by decide +kernel
theorem dX8_isWithin_21 : decode cX8_isWithin 21 = .ok (.iload_n 2, 1) := by decide +kernel
theorem dX8_isWithin_22 : decode cX8_isWithin 22 = .ok (.iload_n 3, 1) := by decide +kernel
theorem dX8_isWithin_23 : decode cX8_isWithin 23 = .ok (.iload 4, 2) := by decide +kernel
theorem dX8_isWithin_25 : decode cX8_isWithin 25 = .ok (.invokestatic 88, 3) := by decide +kernel
theorem dX8_isWithin_28 : decode cX8_isWithin 28 = .ok (.iload_n 1, 1) := by decide +kernel
theorem dX8_isWithin_29 : decode cX8_isWithin 29 = .ok (.iload_n 0, 1) := by decide +kernel
theorem dX8_isWithin_30 : decode cX8_isWithin 30 = .ok (.iload 6, 2) := by decide +kernel
theorem dX8_isWithin_32 : decode cX8_isWithin 32 = .ok (.invokestatic 95, 3) := by decide +kernel
theorem dX8_isWithin_35 : decode cX8_isWithin 35 = .ok (.imul, 1) := by decide +kernel
theorem dX8_isWithin_36 : decode cX8_isWithin 36 = .ok (.if_icmp .gt 7, 3) := by decide +kernel
theorem dX8_isWithin_39 : decode cX8_isWithin 39 = .ok (.iconst 1, 1) := by decide +kernel
theorem dX8_isWithin_40 : decode cX8_isWithin 40 = .ok (.goto 4, 3) := by decide +kernel
theorem dX8_isWithin_43 : decode cX8_isWithin 43 = .ok (.iconst 0, 1) := by decide +kernel
theorem dX8_isWithin_44 : decode cX8_isWithin 44 = .ok (.istore 5, 2) := by decide +kernel
theorem dX8_isWithin_46 : decode cX8_isWithin 46 = .ok (.iinc 6 1, 3) := by decide +kernel
theorem dX8_isWithin_49 : decode cX8_isWithin 49 = .ok (.goto (-43), 3) := by decide +kernel
theorem dX8_isWithin_52 : decode cX8_isWithin 52 = .ok (.iload 5, 2) := by decide +kernel
theorem dX8_isWithin_54 : decode cX8_isWithin 54 = .ok (.ireturn, 1) := by decide +kernel
theorem dX8_pointsOf_0 : decode cX8_pointsOf 0 = .ok (.iconst 0, 1) := by decide +kernel
theorem dX8_pointsOf_1 : decode cX8_pointsOf 1 = .ok (.istore_n 2, 1) := by decide +kernel
theorem dX8_pointsOf_2 : decode cX8_pointsOf 2 = .ok (.iconst 0, 1) := by decide +kernel
theorem dX8_pointsOf_3 : decode cX8_pointsOf 3 = .ok (.istore_n 3, 1) := by decide +kernel
theorem dX8_pointsOf_4 : decode cX8_pointsOf 4 = .ok (.iload_n 3, 1) := by decide +kernel
theorem dX8_pointsOf_5 : decode cX8_pointsOf 5 = .ok (.bipush 64, 2) := by decide +kernel
theorem dX8_pointsOf_7 : decode cX8_pointsOf 7 = .ok (.if_icmp .ge 36, 3) := by decide +kernel
theorem dX8_pointsOf_10 : decode cX8_pointsOf 10 = .ok (.iload_n 2, 1) := by decide +kernel
theorem dX8_pointsOf_11 : decode cX8_pointsOf 11 = .ok (.iload_n 0, 1) := by decide +kernel
theorem dX8_pointsOf_12 : decode cX8_pointsOf 12 = .ok (.iload_n 1, 1) := by decide +kernel
theorem dX8_pointsOf_13 : decode cX8_pointsOf 13 = .ok (.iload_n 3, 1) := by decide +kernel
theorem dX8_pointsOf_14 : decode cX8_pointsOf 14 = .ok (.iconst 3, 1) := by decide +kernel
theorem dX8_pointsOf_15 : decode cX8_pointsOf 15 = .ok (.iand, 1) := by decide +kernel
theorem dX8_pointsOf_16 : decode cX8_pointsOf 16 = .ok (.iload_n 3, 1) := by decide +kernel
theorem dX8_pointsOf_17 : decode cX8_pointsOf 17 = .ok (.iconst 2, 1) := by decide +kernel
theorem dX8_pointsOf_18 : decode cX8_pointsOf 18 = .ok (.ishr, 1) := by decide +kernel
theorem dX8_pointsOf_19 : decode cX8_pointsOf 19 = .ok (.iconst 3, 1) := by decide +kernel
theorem dX8_pointsOf_20 : decode cX8_pointsOf 20 = .ok (.iand, 1) := by decide +kernel
theorem dX8_pointsOf_21 : decode cX8_pointsOf 21 = .ok (.iload_n 3, 1) := by decide +kernel
theorem dX8_pointsOf_22 : decode cX8_pointsOf 22 = .ok (.iconst 4, 1) := by decide +kernel
theorem dX8_pointsOf_23 : decode cX8_pointsOf 23 = .ok (.ishr, 1) := by decide +kernel
theorem dX8_pointsOf_24 : decode cX8_pointsOf 24 = .ok (.invokestatic 112, 3) := by decide +kernel
theorem dX8_pointsOf_27 : decode cX8_pointsOf 27 = .ok (.ifCond .eq 7, 3) := by decide +kernel
theorem dX8_pointsOf_30 : decode cX8_pointsOf 30 = .ok (.iconst 1, 1) := by decide +kernel
theorem dX8_pointsOf_31 : decode cX8_pointsOf 31 = .ok (.goto 4, 3) := by decide +kernel
theorem dX8_pointsOf_34 : decode cX8_pointsOf 34 = .ok (.iconst 0, 1) := by decide +kernel
theorem dX8_pointsOf_35 : decode cX8_pointsOf 35 = .ok (.iadd, 1) := by decide +kernel
theorem dX8_pointsOf_36 : decode cX8_pointsOf 36 = .ok (.istore_n 2, 1) := by decide +kernel
theorem dX8_pointsOf_37 : decode cX8_pointsOf 37 = .ok (.iinc 3 1, 3) := by decide +kernel
theorem dX8_pointsOf_40 : decode cX8_pointsOf 40 = .ok (.goto (-36), 3) := by decide +kernel
theorem dX8_pointsOf_43 : decode cX8_pointsOf 43 = .ok (.iload_n 2, 1) := by decide +kernel
theorem dX8_pointsOf_44 : decode cX8_pointsOf 44 = .ok (.ireturn, 1) := by decide +kernel
theorem dX8_sixfold_0 : decode cX8_sixfold 0 = .ok (.iload_n 0, 1) := by decide +kernel
theorem dX8_sixfold_1 : decode cX8_sixfold 1 = .ok (.ifCond .ne 7, 3) := by decide +kernel
theorem dX8_sixfold_4 : decode cX8_sixfold 4 = .ok (.iconst 0, 1) := by decide +kernel
theorem dX8_sixfold_5 : decode cX8_sixfold 5 = .ok (.goto 26, 3) := by decide +kernel
theorem dX8_sixfold_8 : decode cX8_sixfold 8 = .ok (.iload_n 0, 1) := by decide +kernel
theorem dX8_sixfold_9 : decode cX8_sixfold 9 = .ok (.iconst 3, 1) := by decide +kernel
theorem dX8_sixfold_10 : decode cX8_sixfold 10 = .ok (.invokestatic 116, 3) := by decide +kernel
theorem dX8_sixfold_13 : decode cX8_sixfold 13 = .ok (.iconst 3, 1) := by decide +kernel
theorem dX8_sixfold_14 : decode cX8_sixfold 14 = .ok (.iload_n 0, 1) := by decide +kernel
theorem dX8_sixfold_15 : decode cX8_sixfold 15 = .ok (.iconst 2, 1) := by decide +kernel
theorem dX8_sixfold_16 : decode cX8_sixfold 16 = .ok (.invokestatic 116, 3) := by decide +kernel
theorem dX8_sixfold_19 : decode cX8_sixfold 19 = .ok (.imul, 1) := by decide +kernel
theorem dX8_sixfold_20 : decode cX8_sixfold 20 = .ok (.isub, 1) := by decide +kernel
theorem dX8_sixfold_21 : decode cX8_sixfold 21 = .ok (.iconst 3, 1) := by decide +kernel
theorem dX8_sixfold_22 : decode cX8_sixfold 22 = .ok (.iload_n 0, 1) := by decide +kernel
theorem dX8_sixfold_23 : decode cX8_sixfold 23 = .ok (.iconst 1, 1) := by decide +kernel
theorem dX8_sixfold_24 : decode cX8_sixfold 24 = .ok (.invokestatic 116, 3) := by decide +kernel
theorem dX8_sixfold_27 : decode cX8_sixfold 27 = .ok (.imul, 1) := by decide +kernel
theorem dX8_sixfold_28 : decode cX8_sixfold 28 = .ok (.iadd, 1) := by decide +kernel
theorem dX8_sixfold_29 : decode cX8_sixfold 29 = .ok (.iconst 1, 1) := by decide +kernel
theorem dX8_sixfold_30 : decode cX8_sixfold 30 = .ok (.isub, 1) := by decide +kernel
theorem dX8_sixfold_31 : decode cX8_sixfold 31 = .ok (.ireturn, 1) := by decide +kernel
theorem dX8_width_0 : decode cX8_width 0 = .ok (.iload_n 0, 1) := by decide +kernel
theorem dX8_width_1 : decode cX8_width 1 = .ok (.ifCond .ne 6, 3) := by decide +kernel
theorem dX8_width_4 : decode cX8_width 4 = .ok (.bipush (-5), 2) := by decide +kernel
theorem dX8_width_6 : decode cX8_width 6 = .ok (.ireturn, 1) := by decide +kernel
theorem dX8_width_7 : decode cX8_width 7 = .ok (.bipush 99, 2) := by decide +kernel
theorem dX8_width_9 : decode cX8_width 9 = .ok (.istore_n 1, 1) := by decide +kernel
theorem dX8_width_10 : decode cX8_width 10 = .ok (.iconst 0, 1) := by decide +kernel
theorem dX8_width_11 : decode cX8_width 11 = .ok (.istore_n 2, 1) := by decide +kernel
theorem dX8_width_12 : decode cX8_width 12 = .ok (.iload_n 2, 1) := by decide +kernel
theorem dX8_width_13 : decode cX8_width 13 = .ok (.sipush 343, 3) := by decide +kernel
theorem dX8_width_16 : decode cX8_width 16 = .ok (.if_icmp .ge 39, 3) := by decide +kernel
theorem dX8_width_19 : decode cX8_width 19 = .ok (.iload_n 0, 1) := by decide +kernel
theorem dX8_width_20 : decode cX8_width 20 = .ok (.iload_n 2, 1) := by decide +kernel
theorem dX8_width_21 : decode cX8_width 21 = .ok (.invokestatic 95, 3) := by decide +kernel
theorem dX8_width_24 : decode cX8_width 24 = .ok (.iload_n 0, 1) := by decide +kernel
theorem dX8_width_25 : decode cX8_width 25 = .ok (.iload_n 2, 1) := by decide +kernel
theorem dX8_width_26 : decode cX8_width 26 = .ok (.invokestatic 119, 3) := by decide +kernel
theorem dX8_width_29 : decode cX8_width 29 = .ok (.isub, 1) := by decide +kernel
theorem dX8_width_30 : decode cX8_width 30 = .ok (.istore_n 3, 1) := by decide +kernel
theorem dX8_width_31 : decode cX8_width 31 = .ok (.iload_n 2, 1) := by decide +kernel
theorem dX8_width_32 : decode cX8_width 32 = .ok (.invokestatic 101, 3) := by decide +kernel
theorem dX8_width_35 : decode cX8_width 35 = .ok (.ifCond .ne 12, 3) := by decide +kernel
theorem dX8_width_38 : decode cX8_width 38 = .ok (.iload_n 3, 1) := by decide +kernel
theorem dX8_width_39 : decode cX8_width 39 = .ok (.iload_n 1, 1) := by decide +kernel
theorem dX8_width_40 : decode cX8_width 40 = .ok (.if_icmp .ge 7, 3) := by decide +kernel
theorem dX8_width_43 : decode cX8_width 43 = .ok (.iload_n 3, 1) := by decide +kernel
theorem dX8_width_44 : decode cX8_width 44 = .ok (.goto 4, 3) := by decide +kernel
theorem dX8_width_47 : decode cX8_width 47 = .ok (.iload_n 1, 1) := by decide +kernel
theorem dX8_width_48 : decode cX8_width 48 = .ok (.istore_n 1, 1) := by decide +kernel
theorem dX8_width_49 : decode cX8_width 49 = .ok (.iinc 2 1, 3) := by decide +kernel
theorem dX8_width_52 : decode cX8_width 52 = .ok (.goto (-40), 3) := by decide +kernel
theorem dX8_width_55 : decode cX8_width 55 = .ok (.iload_n 1, 1) := by decide +kernel
theorem dX8_width_56 : decode cX8_width 56 = .ok (.ireturn, 1) := by decide +kernel
theorem dX8_corner_0 : decode cX8_corner 0 = .ok (.iload_n 1, 1) := by decide +kernel
theorem dX8_corner_1 : decode cX8_corner 1 = .ok (.invokestatic 122, 3) := by decide +kernel
theorem dX8_corner_4 : decode cX8_corner 4 = .ok (.ifCond .ne 5, 3) := by decide +kernel
theorem dX8_corner_7 : decode cX8_corner 7 = .ok (.iconst (-1), 1) := by decide +kernel
theorem dX8_corner_8 : decode cX8_corner 8 = .ok (.ireturn, 1) := by decide +kernel
theorem dX8_corner_9 : decode cX8_corner 9 = .ok (.iload_n 2, 1) := by decide +kernel
theorem dX8_corner_10 : decode cX8_corner 10 = .ok (.iconst 0, 1) := by decide +kernel
theorem dX8_corner_11 : decode cX8_corner 11 = .ok (.iconst 1, 1) := by decide +kernel
theorem dX8_corner_12 : decode cX8_corner 12 = .ok (.invokestatic 5, 3) := by decide +kernel
theorem dX8_corner_15 : decode cX8_corner 15 = .ok (.ifCond .ne 6, 3) := by decide +kernel
theorem dX8_corner_18 : decode cX8_corner 18 = .ok (.bipush (-2), 2) := by decide +kernel
theorem dX8_corner_20 : decode cX8_corner 20 = .ok (.ireturn, 1) := by decide +kernel
theorem dX8_corner_21 : decode cX8_corner 21 = .ok (.aload_n 0, 1) := by decide +kernel
theorem dX8_corner_22 : decode cX8_corner 22 = .ok (.getfield 125, 3) := by decide +kernel
theorem dX8_corner_25 : decode cX8_corner 25 = .ok (.iload_n 1, 1) := by decide +kernel
theorem dX8_corner_26 : decode cX8_corner 26 = .ok (.ishr, 1) := by decide +kernel
theorem dX8_corner_27 : decode cX8_corner 27 = .ok (.iconst 1, 1) := by decide +kernel
theorem dX8_corner_28 : decode cX8_corner 28 = .ok (.iand, 1) := by decide +kernel
theorem dX8_corner_29 : decode cX8_corner 29 = .ok (.istore_n 3, 1) := by decide +kernel
theorem dX8_corner_30 : decode cX8_corner 30 = .ok (.aload_n 0, 1) := by decide +kernel
theorem dX8_corner_31 : decode cX8_corner 31 = .ok (.aload_n 0, 1) := by decide +kernel
theorem dX8_corner_32 : decode cX8_corner 32 = .ok (.getfield 125, 3) := by decide +kernel
theorem dX8_corner_35 : decode cX8_corner 35 = .ok (.iconst 1, 1) := by decide +kernel
theorem dX8_corner_36 : decode cX8_corner 36 = .ok (.iload_n 1, 1) := by decide +kernel
theorem dX8_corner_37 : decode cX8_corner 37 = .ok (.ishl, 1) := by decide +kernel
theorem dX8_corner_38 : decode cX8_corner 38 = .ok (.iconst (-1), 1) := by decide +kernel
theorem dX8_corner_39 : decode cX8_corner 39 = .ok (.ixor, 1) := by decide +kernel
theorem dX8_corner_40 : decode cX8_corner 40 = .ok (.iand, 1) := by decide +kernel
theorem dX8_corner_41 : decode cX8_corner 41 = .ok (.iload_n 2, 1) := by decide +kernel
theorem dX8_corner_42 : decode cX8_corner 42 = .ok (.iload_n 1, 1) := by decide +kernel
theorem dX8_corner_43 : decode cX8_corner 43 = .ok (.ishl, 1) := by decide +kernel
theorem dX8_corner_44 : decode cX8_corner 44 = .ok (.ior, 1) := by decide +kernel
theorem dX8_corner_45 : decode cX8_corner 45 = .ok (.putfield 125, 3) := by decide +kernel
theorem dX8_corner_48 : decode cX8_corner 48 = .ok (.iload_n 3, 1) := by decide +kernel
theorem dX8_corner_49 : decode cX8_corner 49 = .ok (.ireturn, 1) := by decide +kernel
theorem dX8_code_0 : decode cX8_code 0 = .ok (.iload_n 1, 1) := by decide +kernel
theorem dX8_code_1 : decode cX8_code 1 = .ok (.iconst 0, 1) := by decide +kernel
theorem dX8_code_2 : decode cX8_code 2 = .ok (.sipush 255, 3) := by decide +kernel
theorem dX8_code_5 : decode cX8_code 5 = .ok (.invokestatic 5, 3) := by decide +kernel
theorem dX8_code_8 : decode cX8_code 8 = .ok (.ifCond .ne 6, 3) := by decide +kernel
theorem dX8_code_11 : decode cX8_code 11 = .ok (.bipush (-2), 2) := by decide +kernel
theorem dX8_code_13 : decode cX8_code 13 = .ok (.ireturn, 1) := by decide +kernel
theorem dX8_code_14 : decode cX8_code 14 = .ok (.aload_n 0, 1) := by decide +kernel
theorem dX8_code_15 : decode cX8_code 15 = .ok (.getfield 125, 3) := by decide +kernel
theorem dX8_code_18 : decode cX8_code 18 = .ok (.istore_n 2, 1) := by decide +kernel
theorem dX8_code_19 : decode cX8_code 19 = .ok (.aload_n 0, 1) := by decide +kernel
theorem dX8_code_20 : decode cX8_code 20 = .ok (.iload_n 1, 1) := by decide +kernel
theorem dX8_code_21 : decode cX8_code 21 = .ok (.putfield 125, 3) := by decide +kernel
theorem dX8_code_24 : decode cX8_code 24 = .ok (.iload_n 2, 1) := by decide +kernel
theorem dX8_code_25 : decode cX8_code 25 = .ok (.ireturn, 1) := by decide +kernel
theorem dX8_move_0 : decode cX8_move 0 = .ok (.iload_n 1, 1) := by decide +kernel
theorem dX8_move_1 : decode cX8_move 1 = .ok (.invokestatic 129, 3) := by decide +kernel
theorem dX8_move_4 : decode cX8_move 4 = .ok (.ifCond .ne 5, 3) := by decide +kernel
theorem dX8_move_7 : decode cX8_move 7 = .ok (.iconst (-1), 1) := by decide +kernel
theorem dX8_move_8 : decode cX8_move 8 = .ok (.ireturn, 1) := by decide +kernel
theorem dX8_move_9 : decode cX8_move 9 = .ok (.aload_n 0, 1) := by decide +kernel
theorem dX8_move_10 : decode cX8_move 10 = .ok (.aload_n 0, 1) := by decide +kernel
theorem dX8_move_11 : decode cX8_move 11 = .ok (.aload_n 0, 1) := by decide +kernel
theorem dX8_move_12 : decode cX8_move 12 = .ok (.getfield 125, 3) := by decide +kernel
theorem dX8_move_15 : decode cX8_move 15 = .ok (.iload_n 1, 1) := by decide +kernel
theorem dX8_move_16 : decode cX8_move 16 = .ok (.invokevirtual 81, 3) := by decide +kernel
theorem dX8_move_19 : decode cX8_move 19 = .ok (.putfield 125, 3) := by decide +kernel
theorem dX8_move_22 : decode cX8_move 22 = .ok (.aload_n 0, 1) := by decide +kernel
theorem dX8_move_23 : decode cX8_move 23 = .ok (.getfield 125, 3) := by decide +kernel
theorem dX8_move_26 : decode cX8_move 26 = .ok (.ireturn, 1) := by decide +kernel
theorem dX8_becomes_0 : decode cX8_becomes 0 = .ok (.iload_n 1, 1) := by decide +kernel
theorem dX8_becomes_1 : decode cX8_becomes 1 = .ok (.iconst 0, 1) := by decide +kernel
theorem dX8_becomes_2 : decode cX8_becomes 2 = .ok (.iconst 3, 1) := by decide +kernel
theorem dX8_becomes_3 : decode cX8_becomes 3 = .ok (.invokestatic 5, 3) := by decide +kernel
theorem dX8_becomes_6 : decode cX8_becomes 6 = .ok (.ifCond .ne 5, 3) := by decide +kernel
theorem dX8_becomes_9 : decode cX8_becomes 9 = .ok (.iconst (-1), 1) := by decide +kernel
theorem dX8_becomes_10 : decode cX8_becomes 10 = .ok (.ireturn, 1) := by decide +kernel
theorem dX8_becomes_11 : decode cX8_becomes 11 = .ok (.aload_n 0, 1) := by decide +kernel
theorem dX8_becomes_12 : decode cX8_becomes 12 = .ok (.iload_n 1, 1) := by decide +kernel
theorem dX8_becomes_13 : decode cX8_becomes 13 = .ok (.ifCond .ne 15, 3) := by decide +kernel
theorem dX8_becomes_16 : decode cX8_becomes 16 = .ok (.aload_n 0, 1) := by decide +kernel
theorem dX8_becomes_17 : decode cX8_becomes 17 = .ok (.getfield 19, 3) := by decide +kernel
theorem dX8_becomes_20 : decode cX8_becomes 20 = .ok (.aload_n 0, 1) := by decide +kernel
theorem dX8_becomes_21 : decode cX8_becomes 21 = .ok (.getfield 125, 3) := by decide +kernel
theorem dX8_becomes_24 : decode cX8_becomes 24 = .ok (.iaload, 1) := by decide +kernel
theorem dX8_becomes_25 : decode cX8_becomes 25 = .ok (.goto 45, 3) := by decide +kernel
theorem dX8_becomes_28 : decode cX8_becomes 28 = .ok (.iload_n 1, 1) := by decide +kernel
theorem dX8_becomes_29 : decode cX8_becomes 29 = .ok (.iconst 1, 1) := by decide +kernel
theorem dX8_becomes_30 : decode cX8_becomes 30 = .ok (.if_icmp .ne 14, 3) := by decide +kernel
theorem dX8_becomes_33 : decode cX8_becomes 33 = .ok (.sipush 255, 3) := by decide +kernel
theorem dX8_becomes_36 : decode cX8_becomes 36 = .ok (.aload_n 0, 1) := by decide +kernel
theorem dX8_becomes_37 : decode cX8_becomes 37 = .ok (.getfield 125, 3) := by decide +kernel
theorem dX8_becomes_40 : decode cX8_becomes 40 = .ok (.isub, 1) := by decide +kernel
theorem dX8_becomes_41 : decode cX8_becomes 41 = .ok (.goto 29, 3) := by decide +kernel
theorem dX8_becomes_44 : decode cX8_becomes 44 = .ok (.iload_n 1, 1) := by decide +kernel
theorem dX8_becomes_45 : decode cX8_becomes 45 = .ok (.iconst 2, 1) := by decide +kernel
theorem dX8_becomes_46 : decode cX8_becomes 46 = .ok (.if_icmp .ne 15, 3) := by decide +kernel
theorem dX8_becomes_49 : decode cX8_becomes 49 = .ok (.aload_n 0, 1) := by decide +kernel
theorem dX8_becomes_50 : decode cX8_becomes 50 = .ok (.getfield 125, 3) := by decide +kernel
theorem dX8_becomes_53 : decode cX8_becomes 53 = .ok (.aload_n 0, 1) := by decide +kernel
theorem dX8_becomes_54 : decode cX8_becomes 54 = .ok (.getfield 132, 3) := by decide +kernel
theorem dX8_becomes_57 : decode cX8_becomes 57 = .ok (.ior, 1) := by decide +kernel
theorem dX8_becomes_58 : decode cX8_becomes 58 = .ok (.goto 12, 3) := by decide +kernel
theorem dX8_becomes_61 : decode cX8_becomes 61 = .ok (.aload_n 0, 1) := by decide +kernel
theorem dX8_becomes_62 : decode cX8_becomes 62 = .ok (.getfield 125, 3) := by decide +kernel
theorem dX8_becomes_65 : decode cX8_becomes 65 = .ok (.aload_n 0, 1) := by decide +kernel
theorem dX8_becomes_66 : decode cX8_becomes 66 = .ok (.getfield 132, 3) := by decide +kernel
theorem dX8_becomes_69 : decode cX8_becomes 69 = .ok (.iand, 1) := by decide +kernel
theorem dX8_becomes_70 : decode cX8_becomes 70 = .ok (.putfield 125, 3) := by decide +kernel
theorem dX8_becomes_73 : decode cX8_becomes 73 = .ok (.aload_n 0, 1) := by decide +kernel
theorem dX8_becomes_74 : decode cX8_becomes 74 = .ok (.getfield 125, 3) := by decide +kernel
theorem dX8_becomes_77 : decode cX8_becomes 77 = .ok (.ireturn, 1) := by decide +kernel
theorem dX8_keep_0 : decode cX8_keep 0 = .ok (.aload_n 0, 1) := by decide +kernel
theorem dX8_keep_1 : decode cX8_keep 1 = .ok (.aload_n 0, 1) := by decide +kernel
theorem dX8_keep_2 : decode cX8_keep 2 = .ok (.getfield 125, 3) := by decide +kernel
theorem dX8_keep_5 : decode cX8_keep 5 = .ok (.putfield 132, 3) := by decide +kernel
theorem dX8_keep_8 : decode cX8_keep 8 = .ok (.aload_n 0, 1) := by decide +kernel
theorem dX8_keep_9 : decode cX8_keep 9 = .ok (.getfield 132, 3) := by decide +kernel
theorem dX8_keep_12 : decode cX8_keep 12 = .ok (.ireturn, 1) := by decide +kernel
theorem dX8_feed_0 : decode cX8_feed 0 = .ok (.iload_n 1, 1) := by decide +kernel
theorem dX8_feed_1 : decode cX8_feed 1 = .ok (.iconst 0, 1) := by decide +kernel
theorem dX8_feed_2 : decode cX8_feed 2 = .ok (.bipush 127, 2) := by decide +kernel
theorem dX8_feed_4 : decode cX8_feed 4 = .ok (.invokestatic 5, 3) := by decide +kernel
theorem dX8_feed_7 : decode cX8_feed 7 = .ok (.ifCond .ne 6, 3) := by decide +kernel
theorem dX8_feed_10 : decode cX8_feed 10 = .ok (.bipush (-2), 2) := by decide +kernel
theorem dX8_feed_12 : decode cX8_feed 12 = .ok (.ireturn, 1) := by decide +kernel
theorem dX8_feed_13 : decode cX8_feed 13 = .ok (.aload_n 0, 1) := by decide +kernel
theorem dX8_feed_14 : decode cX8_feed 14 = .ok (.getfield 135, 3) := by decide +kernel
theorem dX8_feed_17 : decode cX8_feed 17 = .ok (.bipush 100, 2) := by decide +kernel
theorem dX8_feed_19 : decode cX8_feed 19 = .ok (.if_icmp .ne 6, 3) := by decide +kernel
theorem dX8_feed_22 : decode cX8_feed 22 = .ok (.bipush (-4), 2) := by decide +kernel
theorem dX8_feed_24 : decode cX8_feed 24 = .ok (.ireturn, 1) := by decide +kernel
theorem dX8_feed_25 : decode cX8_feed 25 = .ok (.aload_n 0, 1) := by decide +kernel
theorem dX8_feed_26 : decode cX8_feed 26 = .ok (.getfield 38, 3) := by decide +kernel
theorem dX8_feed_29 : decode cX8_feed 29 = .ok (.aload_n 0, 1) := by decide +kernel
theorem dX8_feed_30 : decode cX8_feed 30 = .ok (.getfield 135, 3) := by decide +kernel
theorem dX8_feed_33 : decode cX8_feed 33 = .ok (.iload_n 1, 1) := by decide +kernel
theorem dX8_feed_34 : decode cX8_feed 34 = .ok (.iastore, 1) := by decide +kernel
theorem dX8_feed_35 : decode cX8_feed 35 = .ok (.aload_n 0, 1) := by decide +kernel
theorem dX8_feed_36 : decode cX8_feed 36 = .ok (.dup, 1) := by decide +kernel
theorem dX8_feed_37 : decode cX8_feed 37 = .ok (.getfield 135, 3) := by decide +kernel
theorem dX8_feed_40 : decode cX8_feed 40 = .ok (.iconst 1, 1) := by decide +kernel
theorem dX8_feed_41 : decode cX8_feed 41 = .ok (.iadd, 1) := by decide +kernel
theorem dX8_feed_42 : decode cX8_feed 42 = .ok (.putfield 135, 3) := by decide +kernel
theorem dX8_feed_45 : decode cX8_feed 45 = .ok (.aload_n 0, 1) := by decide +kernel
theorem dX8_feed_46 : decode cX8_feed 46 = .ok (.getfield 135, 3) := by decide +kernel
theorem dX8_feed_49 : decode cX8_feed 49 = .ok (.ireturn, 1) := by decide +kernel
theorem dX8_next_0 : decode cX8_next 0 = .ok (.aload_n 0, 1) := by decide +kernel
theorem dX8_next_1 : decode cX8_next 1 = .ok (.getfield 138, 3) := by decide +kernel
theorem dX8_next_4 : decode cX8_next 4 = .ok (.aload_n 0, 1) := by decide +kernel
theorem dX8_next_5 : decode cX8_next 5 = .ok (.getfield 135, 3) := by decide +kernel
theorem dX8_next_8 : decode cX8_next 8 = .ok (.if_icmp .ge 15, 3) := by decide +kernel
theorem dX8_next_11 : decode cX8_next 11 = .ok (.aload_n 0, 1) := by decide +kernel
theorem dX8_next_12 : decode cX8_next 12 = .ok (.getfield 38, 3) := by decide +kernel
theorem dX8_next_15 : decode cX8_next 15 = .ok (.aload_n 0, 1) := by decide +kernel
theorem dX8_next_16 : decode cX8_next 16 = .ok (.getfield 138, 3) := by decide +kernel
theorem dX8_next_19 : decode cX8_next 19 = .ok (.iaload, 1) := by decide +kernel
theorem dX8_next_20 : decode cX8_next 20 = .ok (.goto 4, 3) := by decide +kernel
theorem dX8_next_23 : decode cX8_next 23 = .ok (.iconst (-1), 1) := by decide +kernel
theorem dX8_next_24 : decode cX8_next 24 = .ok (.ireturn, 1) := by decide +kernel
theorem dX8_isDigit_0 : decode cX8_isDigit 0 = .ok (.aload_n 0, 1) := by decide +kernel
theorem dX8_isDigit_1 : decode cX8_isDigit 1 = .ok (.invokevirtual 141, 3) := by decide +kernel
theorem dX8_isDigit_4 : decode cX8_isDigit 4 = .ok (.bipush 48, 2) := by decide +kernel
theorem dX8_isDigit_6 : decode cX8_isDigit 6 = .ok (.bipush 57, 2) := by decide +kernel
theorem dX8_isDigit_8 : decode cX8_isDigit 8 = .ok (.invokestatic 5, 3) := by decide +kernel
theorem dX8_isDigit_11 : decode cX8_isDigit 11 = .ok (.ireturn, 1) := by decide +kernel
theorem dX8_readsDigits_0 : decode cX8_readsDigits 0 = .ok (.aload_n 0, 1) := by decide +kernel
theorem dX8_readsDigits_1 : decode cX8_readsDigits 1 = .ok (.invokevirtual 145, 3) := by decide +kernel
theorem dX8_readsDigits_4 : decode cX8_readsDigits 4 = .ok (.ifCond .eq 7, 3) := by decide +kernel
theorem dX8_readsDigits_7 : decode cX8_readsDigits 7 = .ok (.iconst 0, 1) := by decide +kernel
theorem dX8_readsDigits_8 : decode cX8_readsDigits 8 = .ok (.goto 4, 3) := by decide +kernel
theorem dX8_readsDigits_11 : decode cX8_readsDigits 11 = .ok (.iconst (-1), 1) := by decide +kernel
theorem dX8_readsDigits_12 : decode cX8_readsDigits 12 = .ok (.istore_n 3, 1) := by decide +kernel
theorem dX8_readsDigits_13 : decode cX8_readsDigits 13 = .ok (.iconst 0, 1) := by decide +kernel
theorem dX8_readsDigits_14 : decode cX8_readsDigits 14 = .ok (.istore 4, 2) := by decide +kernel
theorem dX8_readsDigits_16 : decode cX8_readsDigits 16 = .ok (.iload 4, 2) := by decide +kernel
theorem dX8_readsDigits_18 : decode cX8_readsDigits 18 = .ok (.iload_n 2, 1) := by decide +kernel
theorem dX8_readsDigits_19 : decode cX8_readsDigits 19 = .ok (.if_icmp .ge 56, 3) := by decide +kernel
theorem dX8_readsDigits_22 : decode cX8_readsDigits 22 = .ok (.aload_n 0, 1) := by decide +kernel
theorem dX8_readsDigits_23 : decode cX8_readsDigits 23 = .ok (.invokevirtual 145, 3) := by decide +kernel
theorem dX8_readsDigits_26 : decode cX8_readsDigits 26 = .ok (.ifCond .eq 49, 3) := by decide +kernel
theorem dX8_readsDigits_29 : decode cX8_readsDigits 29 = .ok (.aload_n 0, 1) := by decide +kernel
theorem dX8_readsDigits_30 : decode cX8_readsDigits 30 = .ok (.invokevirtual 141, 3) := by decide +kernel
theorem dX8_readsDigits_33 : decode cX8_readsDigits 33 = .ok (.bipush 48, 2) := by decide +kernel
theorem dX8_readsDigits_35 : decode cX8_readsDigits 35 = .ok (.isub, 1) := by decide +kernel
theorem dX8_readsDigits_36 : decode cX8_readsDigits 36 = .ok (.istore 5, 2) := by decide +kernel
theorem dX8_readsDigits_38 : decode cX8_readsDigits 38 = .ok (.iload_n 1, 1) := by decide +kernel
theorem dX8_readsDigits_39 : decode cX8_readsDigits 39 = .ok (.ifCond .eq 12, 3) := by decide +kernel
theorem dX8_readsDigits_42 : decode cX8_readsDigits 42 = .ok (.iload_n 3, 1) := by decide +kernel
theorem dX8_readsDigits_43 : decode cX8_readsDigits 43 = .ok (.iconst 1, 1) := by decide +kernel
theorem dX8_readsDigits_44 : decode cX8_readsDigits 44 = .ok (.iload 5, 2) := by decide +kernel
theorem dX8_readsDigits_46 : decode cX8_readsDigits 46 = .ok (.ishl, 1) := by decide +kernel
theorem dX8_readsDigits_47 : decode cX8_readsDigits 47 = .ok (.ior, 1) := by decide +kernel
theorem dX8_readsDigits_48 : decode cX8_readsDigits 48 = .ok (.goto 10, 3) := by decide +kernel
theorem dX8_readsDigits_51 : decode cX8_readsDigits 51 = .ok (.bipush 10, 2) := by decide +kernel
theorem dX8_readsDigits_53 : decode cX8_readsDigits 53 = .ok (.iload_n 3, 1) := by decide +kernel
theorem dX8_readsDigits_54 : decode cX8_readsDigits 54 = .ok (.imul, 1) := by decide +kernel
theorem dX8_readsDigits_55 : decode cX8_readsDigits 55 = .ok (.iload 5, 2) := by decide +kernel
theorem dX8_readsDigits_57 : decode cX8_readsDigits 57 = .ok (.iadd, 1) := by decide +kernel
theorem dX8_readsDigits_58 : decode cX8_readsDigits 58 = .ok (.istore_n 3, 1) := by decide +kernel
theorem dX8_readsDigits_59 : decode cX8_readsDigits 59 = .ok (.aload_n 0, 1) := by decide +kernel
theorem dX8_readsDigits_60 : decode cX8_readsDigits 60 = .ok (.dup, 1) := by decide +kernel
theorem dX8_readsDigits_61 : decode cX8_readsDigits 61 = .ok (.getfield 138, 3) := by decide +kernel
theorem dX8_readsDigits_64 : decode cX8_readsDigits 64 = .ok (.iconst 1, 1) := by decide +kernel
theorem dX8_readsDigits_65 : decode cX8_readsDigits 65 = .ok (.iadd, 1) := by decide +kernel
theorem dX8_readsDigits_66 : decode cX8_readsDigits 66 = .ok (.putfield 138, 3) := by decide +kernel
theorem dX8_readsDigits_69 : decode cX8_readsDigits 69 = .ok (.iinc 4 1, 3) := by decide +kernel
theorem dX8_readsDigits_72 : decode cX8_readsDigits 72 = .ok (.goto (-56), 3) := by decide +kernel
theorem dX8_readsDigits_75 : decode cX8_readsDigits 75 = .ok (.iload_n 3, 1) := by decide +kernel
theorem dX8_readsDigits_76 : decode cX8_readsDigits 76 = .ok (.ireturn, 1) := by decide +kernel
theorem dX8_readsClause_0 : decode cX8_readsClause 0 = .ok (.aload_n 0, 1) := by decide +kernel
theorem dX8_readsClause_1 : decode cX8_readsClause 1 = .ok (.invokevirtual 141, 3) := by decide +kernel
theorem dX8_readsClause_4 : decode cX8_readsClause 4 = .ok (.istore_n 1, 1) := by decide +kernel
theorem dX8_readsClause_5 : decode cX8_readsClause 5 = .ok (.iload_n 1, 1) := by decide +kernel
theorem dX8_readsClause_6 : decode cX8_readsClause 6 = .ok (.bipush 43, 2) := by decide +kernel
theorem dX8_readsClause_8 : decode cX8_readsClause 8 = .ok (.if_icmp .eq 9, 3) := by decide +kernel
theorem dX8_readsClause_11 : decode cX8_readsClause 11 = .ok (.iload_n 1, 1) := by decide +kernel
theorem dX8_readsClause_12 : decode cX8_readsClause 12 = .ok (.bipush 45, 2) := by decide +kernel
theorem dX8_readsClause_14 : decode cX8_readsClause 14 = .ok (.if_icmp .ne 7, 3) := by decide +kernel
theorem dX8_readsClause_17 : decode cX8_readsClause 17 = .ok (.iconst 1, 1) := by decide +kernel
theorem dX8_readsClause_18 : decode cX8_readsClause 18 = .ok (.goto 4, 3) := by decide +kernel
theorem dX8_readsClause_21 : decode cX8_readsClause 21 = .ok (.iconst 0, 1) := by decide +kernel
theorem dX8_readsClause_22 : decode cX8_readsClause 22 = .ok (.istore_n 2, 1) := by decide +kernel
theorem dX8_readsClause_23 : decode cX8_readsClause 23 = .ok (.iload_n 2, 1) := by decide +kernel
theorem dX8_readsClause_24 : decode cX8_readsClause 24 = .ok (.ifCond .ne 41, 3) := by decide +kernel
theorem dX8_readsClause_27 : decode cX8_readsClause 27 = .ok (.iload_n 1, 1) := by decide +kernel
theorem dX8_readsClause_28 : decode cX8_readsClause 28 = .ok (.bipush 109, 2) := by decide +kernel
theorem dX8_readsClause_30 : decode cX8_readsClause 30 = .ok (.if_icmp .eq 35, 3) := by decide +kernel
theorem dX8_readsClause_33 : decode cX8_readsClause 33 = .ok (.iload_n 1, 1) := by decide +kernel
theorem dX8_readsClause_34 : decode cX8_readsClause 34 = .ok (.bipush 102, 2) := by decide +kernel
theorem dX8_readsClause_36 : decode cX8_readsClause 36 = .ok (.if_icmp .eq 29, 3) := by decide +kernel
theorem dX8_readsClause_39 : decode cX8_readsClause 39 = .ok (.iload_n 1, 1) := by decide +kernel
theorem dX8_readsClause_40 : decode cX8_readsClause 40 = .ok (.bipush 111, 2) := by decide +kernel
theorem dX8_readsClause_42 : decode cX8_readsClause 42 = .ok (.if_icmp .eq 23, 3) := by decide +kernel
theorem dX8_readsClause_45 : decode cX8_readsClause 45 = .ok (.iload_n 1, 1) := by decide +kernel
theorem dX8_readsClause_46 : decode cX8_readsClause 46 = .ok (.bipush 107, 2) := by decide +kernel
theorem dX8_readsClause_48 : decode cX8_readsClause 48 = .ok (.if_icmp .eq 17, 3) := by decide +kernel
theorem dX8_readsClause_51 : decode cX8_readsClause 51 = .ok (.iload_n 1, 1) := by decide +kernel
theorem dX8_readsClause_52 : decode cX8_readsClause 52 = .ok (.bipush 117, 2) := by decide +kernel
theorem dX8_readsClause_54 : decode cX8_readsClause 54 = .ok (.if_icmp .eq 11, 3) := by decide +kernel
theorem dX8_readsClause_57 : decode cX8_readsClause 57 = .ok (.iload_n 1, 1) := by decide +kernel
theorem dX8_readsClause_58 : decode cX8_readsClause 58 = .ok (.bipush 105, 2) := by decide +kernel
theorem dX8_readsClause_60 : decode cX8_readsClause 60 = .ok (.if_icmp .eq 5, 3) := by decide +kernel
theorem dX8_readsClause_63 : decode cX8_readsClause 63 = .ok (.iconst 0, 1) := by decide +kernel
theorem dX8_readsClause_64 : decode cX8_readsClause 64 = .ok (.ireturn, 1) := by decide +kernel
theorem dX8_readsClause_65 : decode cX8_readsClause 65 = .ok (.aload_n 0, 1) := by decide +kernel
theorem dX8_readsClause_66 : decode cX8_readsClause 66 = .ok (.dup, 1) := by decide +kernel
theorem dX8_readsClause_67 : decode cX8_readsClause 67 = .ok (.getfield 138, 3) := by decide +kernel
theorem dX8_readsClause_70 : decode cX8_readsClause 70 = .ok (.iconst 1, 1) := by decide +kernel
theorem dX8_readsClause_71 : decode cX8_readsClause 71 = .ok (.iadd, 1) := by decide +kernel
theorem dX8_readsClause_72 : decode cX8_readsClause 72 = .ok (.putfield 138, 3) := by decide +kernel
theorem dX8_readsClause_75 : decode cX8_readsClause 75 = .ok (.aload_n 0, 1) := by decide +kernel
theorem dX8_readsClause_76 : decode cX8_readsClause 76 = .ok (.getfield 41, 3) := by decide +kernel
theorem dX8_readsClause_79 : decode cX8_readsClause 79 = .ok (.aload_n 0, 1) := by decide +kernel
theorem dX8_readsClause_80 : decode cX8_readsClause 80 = .ok (.getfield 149, 3) := by decide +kernel
theorem dX8_readsClause_83 : decode cX8_readsClause 83 = .ok (.iload_n 1, 1) := by decide +kernel
theorem dX8_readsClause_84 : decode cX8_readsClause 84 = .ok (.iastore, 1) := by decide +kernel
theorem dX8_readsClause_85 : decode cX8_readsClause 85 = .ok (.aload_n 0, 1) := by decide +kernel
theorem dX8_readsClause_86 : decode cX8_readsClause 86 = .ok (.getfield 44, 3) := by decide +kernel
theorem dX8_readsClause_89 : decode cX8_readsClause 89 = .ok (.aload_n 0, 1) := by decide +kernel
theorem dX8_readsClause_90 : decode cX8_readsClause 90 = .ok (.getfield 149, 3) := by decide +kernel
theorem dX8_readsClause_93 : decode cX8_readsClause 93 = .ok (.iload_n 2, 1) := by decide +kernel
theorem dX8_readsClause_94 : decode cX8_readsClause 94 = .ok (.ifCond .eq 13, 3) := by decide +kernel
theorem dX8_readsClause_97 : decode cX8_readsClause 97 = .ok (.aload_n 0, 1) := by decide +kernel
theorem dX8_readsClause_98 : decode cX8_readsClause 98 = .ok (.iconst 1, 1) := by decide +kernel
theorem dX8_readsClause_99 : decode cX8_readsClause 99 = .ok (.bipush 8, 2) := by decide +kernel
theorem dX8_readsClause_101 : decode cX8_readsClause 101 = .ok (.invokevirtual 152, 3) := by decide +kernel
theorem dX8_readsClause_104 : decode cX8_readsClause 104 = .ok (.goto 19, 3) := by decide +kernel
theorem dX8_readsClause_107 : decode cX8_readsClause 107 = .ok (.iload_n 1, 1) := by decide +kernel
theorem dX8_readsClause_108 : decode cX8_readsClause 108 = .ok (.bipush 109, 2) := by decide +kernel
theorem dX8_readsClause_110 : decode cX8_readsClause 110 = .ok (.if_icmp .ne 12, 3) := by decide +kernel
theorem dX8_readsClause_113 : decode cX8_readsClause 113 = .ok (.aload_n 0, 1) := by decide +kernel
theorem dX8_readsClause_114 : decode cX8_readsClause 114 = .ok (.iconst 0, 1) := by decide +kernel
theorem dX8_readsClause_115 : decode cX8_readsClause 115 = .ok (.iconst 2, 1) := by decide +kernel
theorem dX8_readsClause_116 : decode cX8_readsClause 116 = .ok (.invokevirtual 152, 3) := by decide +kernel
theorem dX8_readsClause_119 : decode cX8_readsClause 119 = .ok (.goto 4, 3) := by decide +kernel
theorem dX8_readsClause_122 : decode cX8_readsClause 122 = .ok (.iconst 0, 1) := by decide +kernel
theorem dX8_readsClause_123 : decode cX8_readsClause 123 = .ok (.iastore, 1) := by decide +kernel
theorem dX8_readsClause_124 : decode cX8_readsClause 124 = .ok (.aload_n 0, 1) := by decide +kernel
theorem dX8_readsClause_125 : decode cX8_readsClause 125 = .ok (.getfield 44, 3) := by decide +kernel
theorem dX8_readsClause_128 : decode cX8_readsClause 128 = .ok (.aload_n 0, 1) := by decide +kernel
theorem dX8_readsClause_129 : decode cX8_readsClause 129 = .ok (.getfield 149, 3) := by decide +kernel
theorem dX8_readsClause_132 : decode cX8_readsClause 132 = .ok (.iaload, 1) := by decide +kernel
theorem dX8_readsClause_133 : decode cX8_readsClause 133 = .ok (.ifCond .ge 5, 3) := by decide +kernel
theorem dX8_readsClause_136 : decode cX8_readsClause 136 = .ok (.iconst 0, 1) := by decide +kernel
theorem dX8_readsClause_137 : decode cX8_readsClause 137 = .ok (.ireturn, 1) := by decide +kernel
theorem dX8_readsClause_138 : decode cX8_readsClause 138 = .ok (.aload_n 0, 1) := by decide +kernel
theorem dX8_readsClause_139 : decode cX8_readsClause 139 = .ok (.dup, 1) := by decide +kernel
theorem dX8_readsClause_140 : decode cX8_readsClause 140 = .ok (.getfield 149, 3) := by decide +kernel
theorem dX8_readsClause_143 : decode cX8_readsClause 143 = .ok (.iconst 1, 1) := by decide +kernel
theorem dX8_readsClause_144 : decode cX8_readsClause 144 = .ok (.iadd, 1) := by decide +kernel
theorem dX8_readsClause_145 : decode cX8_readsClause 145 = .ok (.putfield 149, 3) := by decide +kernel
theorem dX8_readsClause_148 : decode cX8_readsClause 148 = .ok (.iconst 1, 1) := by decide +kernel
theorem dX8_readsClause_149 : decode cX8_readsClause 149 = .ok (.ireturn, 1) := by decide +kernel
theorem dX8_readsAll_0 : decode cX8_readsAll 0 = .ok (.aload_n 0, 1) := by decide +kernel
theorem dX8_readsAll_1 : decode cX8_readsAll 1 = .ok (.iconst 0, 1) := by decide +kernel
theorem dX8_readsAll_2 : decode cX8_readsAll 2 = .ok (.putfield 138, 3) := by decide +kernel
theorem dX8_readsAll_5 : decode cX8_readsAll 5 = .ok (.aload_n 0, 1) := by decide +kernel
theorem dX8_readsAll_6 : decode cX8_readsAll 6 = .ok (.iconst 0, 1) := by decide +kernel
theorem dX8_readsAll_7 : decode cX8_readsAll 7 = .ok (.putfield 149, 3) := by decide +kernel
theorem dX8_readsAll_10 : decode cX8_readsAll 10 = .ok (.aload_n 0, 1) := by decide +kernel
theorem dX8_readsAll_11 : decode cX8_readsAll 11 = .ok (.invokevirtual 156, 3) := by decide +kernel
theorem dX8_readsAll_14 : decode cX8_readsAll 14 = .ok (.istore_n 1, 1) := by decide +kernel
theorem dX8_readsAll_15 : decode cX8_readsAll 15 = .ok (.iload_n 1, 1) := by decide +kernel
theorem dX8_readsAll_16 : decode cX8_readsAll 16 = .ok (.ifCond .eq 39, 3) := by decide +kernel
theorem dX8_readsAll_19 : decode cX8_readsAll 19 = .ok (.aload_n 0, 1) := by decide +kernel
theorem dX8_readsAll_20 : decode cX8_readsAll 20 = .ok (.getfield 149, 3) := by decide +kernel
theorem dX8_readsAll_23 : decode cX8_readsAll 23 = .ok (.bipush 12, 2) := by decide +kernel
theorem dX8_readsAll_25 : decode cX8_readsAll 25 = .ok (.if_icmp .ge 30, 3) := by decide +kernel
theorem dX8_readsAll_28 : decode cX8_readsAll 28 = .ok (.aload_n 0, 1) := by decide +kernel
theorem dX8_readsAll_29 : decode cX8_readsAll 29 = .ok (.invokevirtual 141, 3) := by decide +kernel
theorem dX8_readsAll_32 : decode cX8_readsAll 32 = .ok (.bipush 59, 2) := by decide +kernel
theorem dX8_readsAll_34 : decode cX8_readsAll 34 = .ok (.if_icmp .ne 21, 3) := by decide +kernel
theorem dX8_readsAll_37 : decode cX8_readsAll 37 = .ok (.aload_n 0, 1) := by decide +kernel
theorem dX8_readsAll_38 : decode cX8_readsAll 38 = .ok (.dup, 1) := by decide +kernel
theorem dX8_readsAll_39 : decode cX8_readsAll 39 = .ok (.getfield 138, 3) := by decide +kernel
theorem dX8_readsAll_42 : decode cX8_readsAll 42 = .ok (.iconst 1, 1) := by decide +kernel
theorem dX8_readsAll_43 : decode cX8_readsAll 43 = .ok (.iadd, 1) := by decide +kernel
theorem dX8_readsAll_44 : decode cX8_readsAll 44 = .ok (.putfield 138, 3) := by decide +kernel
theorem dX8_readsAll_47 : decode cX8_readsAll 47 = .ok (.aload_n 0, 1) := by decide +kernel
theorem dX8_readsAll_48 : decode cX8_readsAll 48 = .ok (.invokevirtual 156, 3) := by decide +kernel
theorem dX8_readsAll_51 : decode cX8_readsAll 51 = .ok (.istore_n 1, 1) := by decide +kernel
theorem dX8_readsAll_52 : decode cX8_readsAll 52 = .ok (.goto (-37), 3) := by decide +kernel
theorem dX8_readsAll_55 : decode cX8_readsAll 55 = .ok (.iload_n 1, 1) := by decide +kernel
theorem dX8_readsAll_56 : decode cX8_readsAll 56 = .ok (.ifCond .eq 18, 3) := by decide +kernel
theorem dX8_readsAll_59 : decode cX8_readsAll 59 = .ok (.aload_n 0, 1) := by decide +kernel
theorem dX8_readsAll_60 : decode cX8_readsAll 60 = .ok (.getfield 138, 3) := by decide +kernel
theorem dX8_readsAll_63 : decode cX8_readsAll 63 = .ok (.aload_n 0, 1) := by decide +kernel
theorem dX8_readsAll_64 : decode cX8_readsAll 64 = .ok (.getfield 135, 3) := by decide +kernel
theorem dX8_readsAll_67 : decode cX8_readsAll 67 = .ok (.if_icmp .ne 7, 3) := by decide +kernel
theorem dX8_readsAll_70 : decode cX8_readsAll 70 = .ok (.iconst 1, 1) := by decide +kernel
theorem dX8_readsAll_71 : decode cX8_readsAll 71 = .ok (.goto 4, 3) := by decide +kernel
theorem dX8_readsAll_74 : decode cX8_readsAll 74 = .ok (.iconst 0, 1) := by decide +kernel
theorem dX8_readsAll_75 : decode cX8_readsAll 75 = .ok (.ireturn, 1) := by decide +kernel
theorem dX8_does_0 : decode cX8_does 0 = .ok (.aload_n 0, 1) := by decide +kernel
theorem dX8_does_1 : decode cX8_does 1 = .ok (.getfield 44, 3) := by decide +kernel
theorem dX8_does_4 : decode cX8_does 4 = .ok (.iload_n 1, 1) := by decide +kernel
theorem dX8_does_5 : decode cX8_does 5 = .ok (.iaload, 1) := by decide +kernel
theorem dX8_does_6 : decode cX8_does 6 = .ok (.istore_n 2, 1) := by decide +kernel
theorem dX8_does_7 : decode cX8_does 7 = .ok (.aload_n 0, 1) := by decide +kernel
theorem dX8_does_8 : decode cX8_does 8 = .ok (.getfield 41, 3) := by decide +kernel
theorem dX8_does_11 : decode cX8_does 11 = .ok (.iload_n 1, 1) := by decide +kernel
theorem dX8_does_12 : decode cX8_does 12 = .ok (.iaload, 1) := by decide +kernel
theorem dX8_does_13 : decode cX8_does 13 = .ok (.lookupswitch 142 #[(43, 67), (45, 89), (102, 119), (107, 131), (109, 113), (111, 125), (117, 136)], 67) := by decide +kernel
theorem dX8_does_80 : decode cX8_does 80 = .ok (.iload_n 2, 1) := by decide +kernel
theorem dX8_does_81 : decode cX8_does 81 = .ok (.sipush 256, 3) := by decide +kernel
theorem dX8_does_84 : decode cX8_does 84 = .ok (.if_icmp .ge 16, 3) := by decide +kernel
theorem dX8_does_87 : decode cX8_does 87 = .ok (.aload_n 0, 1) := by decide +kernel
theorem dX8_does_88 : decode cX8_does 88 = .ok (.aload_n 0, 1) := by decide +kernel
theorem dX8_does_89 : decode cX8_does 89 = .ok (.getfield 125, 3) := by decide +kernel
theorem dX8_does_92 : decode cX8_does 92 = .ok (.iload_n 2, 1) := by decide +kernel
theorem dX8_does_93 : decode cX8_does 93 = .ok (.ior, 1) := by decide +kernel
theorem dX8_does_94 : decode cX8_does 94 = .ok (.invokevirtual 159, 3) := by decide +kernel
theorem dX8_does_97 : decode cX8_does 97 = .ok (.goto 4, 3) := by decide +kernel
theorem dX8_does_100 : decode cX8_does 100 = .ok (.iconst (-1), 1) := by decide +kernel
theorem dX8_does_101 : decode cX8_does 101 = .ok (.ireturn, 1) := by decide +kernel
theorem dX8_does_102 : decode cX8_does 102 = .ok (.iload_n 2, 1) := by decide +kernel
theorem dX8_does_103 : decode cX8_does 103 = .ok (.sipush 256, 3) := by decide +kernel
theorem dX8_does_106 : decode cX8_does 106 = .ok (.if_icmp .ge 18, 3) := by decide +kernel
theorem dX8_does_109 : decode cX8_does 109 = .ok (.aload_n 0, 1) := by decide +kernel
theorem dX8_does_110 : decode cX8_does 110 = .ok (.aload_n 0, 1) := by decide +kernel
theorem dX8_does_111 : decode cX8_does 111 = .ok (.getfield 125, 3) := by decide +kernel
theorem dX8_does_114 : decode cX8_does 114 = .ok (.iload_n 2, 1) := by decide +kernel
theorem dX8_does_115 : decode cX8_does 115 = .ok (.iconst (-1), 1) := by decide +kernel
theorem dX8_does_116 : decode cX8_does 116 = .ok (.ixor, 1) := by decide +kernel
theorem dX8_does_117 : decode cX8_does 117 = .ok (.iand, 1) := by decide +kernel
theorem dX8_does_118 : decode cX8_does 118 = .ok (.invokevirtual 159, 3) := by decide +kernel
theorem dX8_does_121 : decode cX8_does 121 = .ok (.goto 4, 3) := by decide +kernel
theorem dX8_does_124 : decode cX8_does 124 = .ok (.iconst (-1), 1) := by decide +kernel
theorem dX8_does_125 : decode cX8_does 125 = .ok (.ireturn, 1) := by decide +kernel
theorem dX8_does_126 : decode cX8_does 126 = .ok (.aload_n 0, 1) := by decide +kernel
theorem dX8_does_127 : decode cX8_does 127 = .ok (.iload_n 2, 1) := by decide +kernel
theorem dX8_does_128 : decode cX8_does 128 = .ok (.invokevirtual 162, 3) := by decide +kernel
theorem dX8_does_131 : decode cX8_does 131 = .ok (.ireturn, 1) := by decide +kernel
theorem dX8_does_132 : decode cX8_does 132 = .ok (.aload_n 0, 1) := by decide +kernel
theorem dX8_does_133 : decode cX8_does 133 = .ok (.iconst 0, 1) := by decide +kernel
theorem dX8_does_134 : decode cX8_does 134 = .ok (.invokevirtual 165, 3) := by decide +kernel
theorem dX8_does_137 : decode cX8_does 137 = .ok (.ireturn, 1) := by decide +kernel
theorem dX8_does_138 : decode cX8_does 138 = .ok (.aload_n 0, 1) := by decide +kernel
theorem dX8_does_139 : decode cX8_does 139 = .ok (.iconst 1, 1) := by decide +kernel
theorem dX8_does_140 : decode cX8_does 140 = .ok (.invokevirtual 165, 3) := by decide +kernel
theorem dX8_does_143 : decode cX8_does 143 = .ok (.ireturn, 1) := by decide +kernel
theorem dX8_does_144 : decode cX8_does 144 = .ok (.aload_n 0, 1) := by decide +kernel
theorem dX8_does_145 : decode cX8_does 145 = .ok (.invokevirtual 168, 3) := by decide +kernel
theorem dX8_does_148 : decode cX8_does 148 = .ok (.ireturn, 1) := by decide +kernel
theorem dX8_does_149 : decode cX8_does 149 = .ok (.aload_n 0, 1) := by decide +kernel
theorem dX8_does_150 : decode cX8_does 150 = .ok (.iconst 2, 1) := by decide +kernel
theorem dX8_does_151 : decode cX8_does 151 = .ok (.invokevirtual 165, 3) := by decide +kernel
theorem dX8_does_154 : decode cX8_does 154 = .ok (.ireturn, 1) := by decide +kernel
theorem dX8_does_155 : decode cX8_does 155 = .ok (.aload_n 0, 1) := by decide +kernel
theorem dX8_does_156 : decode cX8_does 156 = .ok (.iconst 3, 1) := by decide +kernel
theorem dX8_does_157 : decode cX8_does 157 = .ok (.invokevirtual 165, 3) := by decide +kernel
theorem dX8_does_160 : decode cX8_does 160 = .ok (.ireturn, 1) := by decide +kernel
theorem dX8_set_0 : decode cX8_set 0 = .ok (.aload_n 0, 1) := by decide +kernel
theorem dX8_set_1 : decode cX8_set 1 = .ok (.iload_n 1, 1) := by decide +kernel
theorem dX8_set_2 : decode cX8_set 2 = .ok (.putfield 125, 3) := by decide +kernel
theorem dX8_set_5 : decode cX8_set 5 = .ok (.aload_n 0, 1) := by decide +kernel
theorem dX8_set_6 : decode cX8_set 6 = .ok (.getfield 125, 3) := by decide +kernel
theorem dX8_set_9 : decode cX8_set 9 = .ok (.ireturn, 1) := by decide +kernel
theorem dX8_read_0 : decode cX8_read 0 = .ok (.aload_n 0, 1) := by decide +kernel
theorem dX8_read_1 : decode cX8_read 1 = .ok (.invokevirtual 171, 3) := by decide +kernel
theorem dX8_read_4 : decode cX8_read 4 = .ok (.istore_n 1, 1) := by decide +kernel
theorem dX8_read_5 : decode cX8_read 5 = .ok (.aload_n 0, 1) := by decide +kernel
theorem dX8_read_6 : decode cX8_read 6 = .ok (.iconst 0, 1) := by decide +kernel
theorem dX8_read_7 : decode cX8_read 7 = .ok (.putfield 135, 3) := by decide +kernel
theorem dX8_read_10 : decode cX8_read 10 = .ok (.iload_n 1, 1) := by decide +kernel
theorem dX8_read_11 : decode cX8_read 11 = .ok (.ifCond .ne 11, 3) := by decide +kernel
theorem dX8_read_14 : decode cX8_read 14 = .ok (.bipush (-10), 2) := by decide +kernel
theorem dX8_read_16 : decode cX8_read 16 = .ok (.aload_n 0, 1) := by decide +kernel
theorem dX8_read_17 : decode cX8_read 17 = .ok (.getfield 138, 3) := by decide +kernel
theorem dX8_read_20 : decode cX8_read 20 = .ok (.isub, 1) := by decide +kernel
theorem dX8_read_21 : decode cX8_read 21 = .ok (.ireturn, 1) := by decide +kernel
theorem dX8_read_22 : decode cX8_read 22 = .ok (.iconst 0, 1) := by decide +kernel
theorem dX8_read_23 : decode cX8_read 23 = .ok (.istore_n 2, 1) := by decide +kernel
theorem dX8_read_24 : decode cX8_read 24 = .ok (.iconst 0, 1) := by decide +kernel
theorem dX8_read_25 : decode cX8_read 25 = .ok (.istore_n 3, 1) := by decide +kernel
theorem dX8_read_26 : decode cX8_read 26 = .ok (.iload_n 3, 1) := by decide +kernel
theorem dX8_read_27 : decode cX8_read 27 = .ok (.aload_n 0, 1) := by decide +kernel
theorem dX8_read_28 : decode cX8_read 28 = .ok (.getfield 149, 3) := by decide +kernel
theorem dX8_read_31 : decode cX8_read 31 = .ok (.if_icmp .ge 25, 3) := by decide +kernel
theorem dX8_read_34 : decode cX8_read 34 = .ok (.iload_n 2, 1) := by decide +kernel
theorem dX8_read_35 : decode cX8_read 35 = .ok (.aload_n 0, 1) := by decide +kernel
theorem dX8_read_36 : decode cX8_read 36 = .ok (.iload_n 3, 1) := by decide +kernel
theorem dX8_read_37 : decode cX8_read 37 = .ok (.invokevirtual 174, 3) := by decide +kernel
theorem dX8_read_40 : decode cX8_read 40 = .ok (.ifCond .lt 7, 3) := by decide +kernel
theorem dX8_read_43 : decode cX8_read 43 = .ok (.iconst 1, 1) := by decide +kernel
theorem dX8_read_44 : decode cX8_read 44 = .ok (.goto 4, 3) := by decide +kernel
theorem dX8_read_47 : decode cX8_read 47 = .ok (.iconst 0, 1) := by decide +kernel
theorem dX8_read_48 : decode cX8_read 48 = .ok (.iadd, 1) := by decide +kernel
theorem dX8_read_49 : decode cX8_read 49 = .ok (.istore_n 2, 1) := by decide +kernel
theorem dX8_read_50 : decode cX8_read 50 = .ok (.iinc 3 1, 3) := by decide +kernel
theorem dX8_read_53 : decode cX8_read 53 = .ok (.goto (-27), 3) := by decide +kernel
theorem dX8_read_56 : decode cX8_read 56 = .ok (.iload_n 2, 1) := by decide +kernel
theorem dX8_read_57 : decode cX8_read 57 = .ok (.ireturn, 1) := by decide +kernel
theorem dX8_far_0 : decode cX8_far 0 = .ok (.bipush 8, 2) := by decide +kernel
theorem dX8_far_2 : decode cX8_far 2 = .ok (.istore_n 1, 1) := by decide +kernel
theorem dX8_far_3 : decode cX8_far 3 = .ok (.iconst 0, 1) := by decide +kernel
theorem dX8_far_4 : decode cX8_far 4 = .ok (.istore_n 2, 1) := by decide +kernel
theorem dX8_far_5 : decode cX8_far 5 = .ok (.iload_n 2, 1) := by decide +kernel
theorem dX8_far_6 : decode cX8_far 6 = .ok (.bipush 48, 2) := by decide +kernel
theorem dX8_far_8 : decode cX8_far 8 = .ok (.if_icmp .ge 38, 3) := by decide +kernel
theorem dX8_far_11 : decode cX8_far 11 = .ok (.aload_n 0, 1) := by decide +kernel
theorem dX8_far_12 : decode cX8_far 12 = .ok (.aload_n 0, 1) := by decide +kernel
theorem dX8_far_13 : decode cX8_far 13 = .ok (.getfield 125, 3) := by decide +kernel
