theorem d_M_init_0 : decode c_M_init 0 = .ok (.aload_n 0, 1) := by decide +kernel
theorem d_M_init_1 : decode c_M_init 1 = .ok (.invokespecial 1, 3) := by decide +kernel
theorem d_M_init_4 : decode c_M_init 4 = .ok (.aload_n 0, 1) := by decide +kernel
theorem d_M_init_5 : decode c_M_init 5 = .ok (.bipush 24, 2) := by decide +kernel
theorem d_M_init_7 : decode c_M_init 7 = .ok (.newarray .int, 2) := by decide +kernel
theorem d_M_init_9 : decode c_M_init 9 = .ok (.putfield 7, 3) := by decide +kernel
theorem d_M_init_12 : decode c_M_init 12 = .ok (.aload_n 0, 1) := by decide +kernel
theorem d_M_init_13 : decode c_M_init 13 = .ok (.bipush 24, 2) := by decide +kernel
theorem d_M_init_15 : decode c_M_init 15 = .ok (.newarray .int, 2) := by decide +kernel
theorem d_M_init_17 : decode c_M_init 17 = .ok (.putfield 13, 3) := by decide +kernel
theorem d_M_init_20 : decode c_M_init 20 = .ok (.aload_n 0, 1) := by decide +kernel
theorem d_M_init_21 : decode c_M_init 21 = .ok (.bipush 24, 2) := by decide +kernel
theorem d_M_init_23 : decode c_M_init 23 = .ok (.newarray .int, 2) := by decide +kernel
theorem d_M_init_25 : decode c_M_init 25 = .ok (.putfield 16, 3) := by decide +kernel
theorem d_M_init_28 : decode c_M_init 28 = .ok (.aload_n 0, 1) := by decide +kernel
theorem d_M_init_29 : decode c_M_init 29 = .ok (.bipush 24, 2) := by decide +kernel
theorem d_M_init_31 : decode c_M_init 31 = .ok (.newarray .int, 2) := by decide +kernel
theorem d_M_init_33 : decode c_M_init 33 = .ok (.putfield 19, 3) := by decide +kernel
theorem d_M_init_36 : decode c_M_init 36 = .ok (.aload_n 0, 1) := by decide +kernel
theorem d_M_init_37 : decode c_M_init 37 = .ok (.iconst 1, 1) := by decide +kernel
theorem d_M_init_38 : decode c_M_init 38 = .ok (.putfield 22, 3) := by decide +kernel
theorem d_M_init_41 : decode c_M_init 41 = .ok (.aload_n 0, 1) := by decide +kernel
theorem d_M_init_42 : decode c_M_init 42 = .ok (.bipush 40, 2) := by decide +kernel
theorem d_M_init_44 : decode c_M_init 44 = .ok (.newarray .int, 2) := by decide +kernel
theorem d_M_init_46 : decode c_M_init 46 = .ok (.putfield 26, 3) := by decide +kernel
theorem d_M_init_49 : decode c_M_init 49 = .ok (.aload_n 0, 1) := by decide +kernel
theorem d_M_init_50 : decode c_M_init 50 = .ok (.bipush 40, 2) := by decide +kernel
theorem d_M_init_52 : decode c_M_init 52 = .ok (.newarray .int, 2) := by decide +kernel
theorem d_M_init_54 : decode c_M_init 54 = .ok (.putfield 29, 3) := by decide +kernel
theorem d_M_init_57 : decode c_M_init 57 = .ok (.aload_n 0, 1) := by decide +kernel
theorem d_M_init_58 : decode c_M_init 58 = .ok (.bipush 40, 2) := by decide +kernel
theorem d_M_init_60 : decode c_M_init 60 = .ok (.newarray .int, 2) := by decide +kernel
theorem d_M_init_62 : decode c_M_init 62 = .ok (.putfield 32, 3) := by decide +kernel
theorem d_M_init_65 : decode c_M_init 65 = .ok (.aload_n 0, 1) := by decide +kernel
theorem d_M_init_66 : decode c_M_init 66 = .ok (.bipush 40, 2) := by decide +kernel
theorem d_M_init_68 : decode c_M_init 68 = .ok (.newarray .int, 2) := by decide +kernel
theorem d_M_init_70 : decode c_M_init 70 = .ok (.putfield 35, 3) := by decide +kernel
theorem d_M_init_73 : decode c_M_init 73 = .ok (.aload_n 0, 1) := by decide +kernel
theorem d_M_init_74 : decode c_M_init 74 = .ok (.bipush 40, 2) := by decide +kernel
theorem d_M_init_76 : decode c_M_init 76 = .ok (.newarray .int, 2) := by decide +kernel
theorem d_M_init_78 : decode c_M_init 78 = .ok (.putfield 38, 3) := by decide +kernel
theorem d_M_init_81 : decode c_M_init 81 = .ok (.aload_n 0, 1) := by decide +kernel
theorem d_M_init_82 : decode c_M_init 82 = .ok (.bipush 40, 2) := by decide +kernel
theorem d_M_init_84 : decode c_M_init 84 = .ok (.newarray .int, 2) := by decide +kernel
theorem d_M_init_86 : decode c_M_init 86 = .ok (.putfield 41, 3) := by decide +kernel
theorem d_M_init_89 : decode c_M_init 89 = .ok (.aload_n 0, 1) := by decide +kernel
theorem d_M_init_90 : decode c_M_init 90 = .ok (.bipush 40, 2) := by decide +kernel
theorem d_M_init_92 : decode c_M_init 92 = .ok (.newarray .int, 2) := by decide +kernel
theorem d_M_init_94 : decode c_M_init 94 = .ok (.putfield 44, 3) := by decide +kernel
theorem d_M_init_97 : decode c_M_init 97 = .ok (.aload_n 0, 1) := by decide +kernel
theorem d_M_init_98 : decode c_M_init 98 = .ok (.bipush 40, 2) := by decide +kernel
theorem d_M_init_100 : decode c_M_init 100 = .ok (.newarray .int, 2) := by decide +kernel
theorem d_M_init_102 : decode c_M_init 102 = .ok (.putfield 47, 3) := by decide +kernel
theorem d_M_init_105 : decode c_M_init 105 = .ok (.aload_n 0, 1) := by decide +kernel
theorem d_M_init_106 : decode c_M_init 106 = .ok (.bipush 40, 2) := by decide +kernel
theorem d_M_init_108 : decode c_M_init 108 = .ok (.newarray .int, 2) := by decide +kernel
theorem d_M_init_110 : decode c_M_init 110 = .ok (.putfield 50, 3) := by decide +kernel
theorem d_M_init_113 : decode c_M_init 113 = .ok (.aload_n 0, 1) := by decide +kernel
theorem d_M_init_114 : decode c_M_init 114 = .ok (.bipush 7, 2) := by decide +kernel
theorem d_M_init_116 : decode c_M_init 116 = .ok (.newarray .int, 2) := by decide +kernel
theorem d_M_init_118 : decode c_M_init 118 = .ok (.putfield 53, 3) := by decide +kernel
theorem d_M_init_121 : decode c_M_init 121 = .ok (.aload_n 0, 1) := by decide +kernel
theorem d_M_init_122 : decode c_M_init 122 = .ok (.bipush 7, 2) := by decide +kernel
theorem d_M_init_124 : decode c_M_init 124 = .ok (.newarray .int, 2) := by decide +kernel
theorem d_M_init_126 : decode c_M_init 126 = .ok (.putfield 56, 3) := by decide +kernel
theorem d_M_init_129 : decode c_M_init 129 = .ok (.aload_n 0, 1) := by decide +kernel
theorem d_M_init_130 : decode c_M_init 130 = .ok (.bipush 7, 2) := by decide +kernel
theorem d_M_init_132 : decode c_M_init 132 = .ok (.newarray .int, 2) := by decide +kernel
theorem d_M_init_134 : decode c_M_init 134 = .ok (.putfield 59, 3) := by decide +kernel
theorem d_M_init_137 : decode c_M_init 137 = .ok (.aload_n 0, 1) := by decide +kernel
theorem d_M_init_138 : decode c_M_init 138 = .ok (.bipush 7, 2) := by decide +kernel
theorem d_M_init_140 : decode c_M_init 140 = .ok (.newarray .int, 2) := by decide +kernel
theorem d_M_init_142 : decode c_M_init 142 = .ok (.putfield 62, 3) := by decide +kernel
theorem d_M_init_145 : decode c_M_init 145 = .ok (.aload_n 0, 1) := by decide +kernel
theorem d_M_init_146 : decode c_M_init 146 = .ok (.bipush 7, 2) := by decide +kernel
theorem d_M_init_148 : decode c_M_init 148 = .ok (.newarray .int, 2) := by decide +kernel
theorem d_M_init_150 : decode c_M_init 150 = .ok (.putfield 65, 3) := by decide +kernel
theorem d_M_init_153 : decode c_M_init 153 = .ok (.aload_n 0, 1) := by decide +kernel
theorem d_M_init_154 : decode c_M_init 154 = .ok (.sipush 280, 3) := by decide +kernel
theorem d_M_init_157 : decode c_M_init 157 = .ok (.newarray .boolean, 2) := by decide +kernel
theorem d_M_init_159 : decode c_M_init 159 = .ok (.putfield 68, 3) := by decide +kernel
theorem d_M_init_162 : decode c_M_init 162 = .ok (.aload_n 0, 1) := by decide +kernel
theorem d_M_init_163 : decode c_M_init 163 = .ok (.sipush 280, 3) := by decide +kernel
theorem d_M_init_166 : decode c_M_init 166 = .ok (.newarray .int, 2) := by decide +kernel
theorem d_M_init_168 : decode c_M_init 168 = .ok (.putfield 72, 3) := by decide +kernel
theorem d_M_init_171 : decode c_M_init 171 = .ok (.aload_n 0, 1) := by decide +kernel
theorem d_M_init_172 : decode c_M_init 172 = .ok (.bipush 49, 2) := by decide +kernel
theorem d_M_init_174 : decode c_M_init 174 = .ok (.newarray .int, 2) := by decide +kernel
theorem d_M_init_176 : decode c_M_init 176 = .ok (.putfield 75, 3) := by decide +kernel
theorem d_M_init_179 : decode c_M_init 179 = .ok (.aload_n 0, 1) := by decide +kernel
theorem d_M_init_180 : decode c_M_init 180 = .ok (.bipush 40, 2) := by decide +kernel
theorem d_M_init_182 : decode c_M_init 182 = .ok (.newarray .int, 2) := by decide +kernel
theorem d_M_init_184 : decode c_M_init 184 = .ok (.putfield 78, 3) := by decide +kernel
theorem d_M_init_187 : decode c_M_init 187 = .ok (.aload_n 0, 1) := by decide +kernel
theorem d_M_init_188 : decode c_M_init 188 = .ok (.iconst 4, 1) := by decide +kernel
theorem d_M_init_189 : decode c_M_init 189 = .ok (.newarray .int, 2) := by decide +kernel
theorem d_M_init_191 : decode c_M_init 191 = .ok (.putfield 81, 3) := by decide +kernel
theorem d_M_init_194 : decode c_M_init 194 = .ok (.aload_n 0, 1) := by decide +kernel
theorem d_M_init_195 : decode c_M_init 195 = .ok (.bipush 24, 2) := by decide +kernel
theorem d_M_init_197 : decode c_M_init 197 = .ok (.newarray .int, 2) := by decide +kernel
theorem d_M_init_199 : decode c_M_init 199 = .ok (.putfield 84, 3) := by decide +kernel
theorem d_M_init_202 : decode c_M_init 202 = .ok (.aload_n 0, 1) := by decide +kernel
theorem d_M_init_203 : decode c_M_init 203 = .ok (.iload_n 1, 1) := by decide +kernel
theorem d_M_init_204 : decode c_M_init 204 = .ok (.iconst 2, 1) := by decide +kernel
theorem d_M_init_205 : decode c_M_init 205 = .ok (.if_icmp .ne 7, 3) := by decide +kernel
theorem d_M_init_208 : decode c_M_init 208 = .ok (.iconst 2, 1) := by decide +kernel
theorem d_M_init_209 : decode c_M_init 209 = .ok (.goto 4, 3) := by decide +kernel
theorem d_M_init_212 : decode c_M_init 212 = .ok (.iconst 1, 1) := by decide +kernel
theorem d_M_init_213 : decode c_M_init 213 = .ok (.putfield 87, 3) := by decide +kernel
theorem d_M_init_216 : decode c_M_init 216 = .ok (.aload_n 0, 1) := by decide +kernel
theorem d_M_init_217 : decode c_M_init 217 = .ok (.iconst 3, 1) := by decide +kernel
theorem d_M_init_218 : decode c_M_init 218 = .ok (.aload_n 0, 1) := by decide +kernel
theorem d_M_init_219 : decode c_M_init 219 = .ok (.getfield 87, 3) := by decide +kernel
theorem d_M_init_222 : decode c_M_init 222 = .ok (.imul, 1) := by decide +kernel
theorem d_M_init_223 : decode c_M_init 223 = .ok (.iconst 1, 1) := by decide +kernel
theorem d_M_init_224 : decode c_M_init 224 = .ok (.iadd, 1) := by decide +kernel
theorem d_M_init_225 : decode c_M_init 225 = .ok (.putfield 90, 3) := by decide +kernel
theorem d_M_init_228 : decode c_M_init 228 = .ok (.aload_n 0, 1) := by decide +kernel
theorem d_M_init_229 : decode c_M_init 229 = .ok (.iload_n 3, 1) := by decide +kernel
theorem d_M_init_230 : decode c_M_init 230 = .ok (.iconst 4, 1) := by decide +kernel
theorem d_M_init_231 : decode c_M_init 231 = .ok (.if_icmp .ge 7, 3) := by decide +kernel
theorem d_M_init_234 : decode c_M_init 234 = .ok (.iconst 4, 1) := by decide +kernel
theorem d_M_init_235 : decode c_M_init 235 = .ok (.goto 15, 3) := by decide +kernel
theorem d_M_init_238 : decode c_M_init 238 = .ok (.iload_n 3, 1) := by decide +kernel
theorem d_M_init_239 : decode c_M_init 239 = .ok (.bipush 9, 2) := by decide +kernel
theorem d_M_init_241 : decode c_M_init 241 = .ok (.if_icmp .le 8, 3) := by decide +kernel
theorem d_M_init_244 : decode c_M_init 244 = .ok (.bipush 9, 2) := by decide +kernel
theorem d_M_init_246 : decode c_M_init 246 = .ok (.goto 4, 3) := by decide +kernel
theorem d_M_init_249 : decode c_M_init 249 = .ok (.iload_n 3, 1) := by decide +kernel
theorem d_M_init_250 : decode c_M_init 250 = .ok (.putfield 93, 3) := by decide +kernel
theorem d_M_init_253 : decode c_M_init 253 = .ok (.iconst 0, 1) := by decide +kernel
theorem d_M_init_254 : decode c_M_init 254 = .ok (.istore 4, 2) := by decide +kernel
theorem d_M_init_256 : decode c_M_init 256 = .ok (.iconst 0, 1) := by decide +kernel
theorem d_M_init_257 : decode c_M_init 257 = .ok (.istore 5, 2) := by decide +kernel
theorem d_M_init_259 : decode c_M_init 259 = .ok (.iconst 0, 1) := by decide +kernel
theorem d_M_init_260 : decode c_M_init 260 = .ok (.istore 6, 2) := by decide +kernel
theorem d_M_init_262 : decode c_M_init 262 = .ok (.iload 6, 2) := by decide +kernel
theorem d_M_init_264 : decode c_M_init 264 = .ok (.aload_n 0, 1) := by decide +kernel
theorem d_M_init_265 : decode c_M_init 265 = .ok (.getfield 90, 3) := by decide +kernel
theorem d_M_init_268 : decode c_M_init 268 = .ok (.if_icmp .ge 67, 3) := by decide +kernel
theorem d_M_init_271 : decode c_M_init 271 = .ok (.iload_n 2, 1) := by decide +kernel
theorem d_M_init_272 : decode c_M_init 272 = .ok (.iload 6, 2) := by decide +kernel
theorem d_M_init_274 : decode c_M_init 274 = .ok (.ishr, 1) := by decide +kernel
theorem d_M_init_275 : decode c_M_init 275 = .ok (.iconst 1, 1) := by decide +kernel
theorem d_M_init_276 : decode c_M_init 276 = .ok (.iand, 1) := by decide +kernel
theorem d_M_init_277 : decode c_M_init 277 = .ok (.iconst 1, 1) := by decide +kernel
theorem d_M_init_278 : decode c_M_init 278 = .ok (.if_icmp .ne 24, 3) := by decide +kernel
theorem d_M_init_281 : decode c_M_init 281 = .ok (.iload 5, 2) := by decide +kernel
theorem d_M_init_283 : decode c_M_init 283 = .ok (.aload_n 0, 1) := by decide +kernel
theorem d_M_init_284 : decode c_M_init 284 = .ok (.getfield 87, 3) := by decide +kernel
theorem d_M_init_287 : decode c_M_init 287 = .ok (.if_icmp .ge 15, 3) := by decide +kernel
theorem d_M_init_290 : decode c_M_init 290 = .ok (.iload 4, 2) := by decide +kernel
theorem d_M_init_292 : decode c_M_init 292 = .ok (.iconst 1, 1) := by decide +kernel
theorem d_M_init_293 : decode c_M_init 293 = .ok (.iload 6, 2) := by decide +kernel
theorem d_M_init_295 : decode c_M_init 295 = .ok (.ishl, 1) := by decide +kernel
theorem d_M_init_296 : decode c_M_init 296 = .ok (.ior, 1) := by decide +kernel
theorem d_M_init_297 : decode c_M_init 297 = .ok (.istore 4, 2) := by decide +kernel
theorem d_M_init_299 : decode c_M_init 299 = .ok (.iinc 5 1, 3) := by decide +kernel
theorem d_M_init_302 : decode c_M_init 302 = .ok (.aload_n 0, 1) := by decide +kernel
theorem d_M_init_303 : decode c_M_init 303 = .ok (.getfield 53, 3) := by decide +kernel
theorem d_M_init_306 : decode c_M_init 306 = .ok (.iload 6, 2) := by decide +kernel
theorem d_M_init_308 : decode c_M_init 308 = .ok (.iconst 1, 1) := by decide +kernel
theorem d_M_init_309 : decode c_M_init 309 = .ok (.iastore, 1) := by decide +kernel
theorem d_M_init_310 : decode c_M_init 310 = .ok (.aload_n 0, 1) := by decide +kernel
theorem d_M_init_311 : decode c_M_init 311 = .ok (.getfield 59, 3) := by decide +kernel
theorem d_M_init_314 : decode c_M_init 314 = .ok (.iload 6, 2) := by decide +kernel
theorem d_M_init_316 : decode c_M_init 316 = .ok (.iconst 2, 1) := by decide +kernel
theorem d_M_init_317 : decode c_M_init 317 = .ok (.iastore, 1) := by decide +kernel
theorem d_M_init_318 : decode c_M_init 318 = .ok (.aload_n 0, 1) := by decide +kernel
theorem d_M_init_319 : decode c_M_init 319 = .ok (.getfield 68, 3) := by decide +kernel
theorem d_M_init_322 : decode c_M_init 322 = .ok (.bipush 40, 2) := by decide +kernel
theorem d_M_init_324 : decode c_M_init 324 = .ok (.iload 6, 2) := by decide +kernel
theorem d_M_init_326 : decode c_M_init 326 = .ok (.imul, 1) := by decide +kernel
theorem d_M_init_327 : decode c_M_init 327 = .ok (.iconst 1, 1) := by decide +kernel
theorem d_M_init_328 : decode c_M_init 328 = .ok (.bastore, 1) := by decide +kernel
theorem d_M_init_329 : decode c_M_init 329 = .ok (.iinc 6 1, 3) := by decide +kernel
theorem d_M_init_332 : decode c_M_init 332 = .ok (.goto (-70), 3) := by decide +kernel
theorem d_M_init_335 : decode c_M_init 335 = .ok (.aload_n 0, 1) := by decide +kernel
theorem d_M_init_336 : decode c_M_init 336 = .ok (.iload 4, 2) := by decide +kernel
theorem d_M_init_338 : decode c_M_init 338 = .ok (.putfield 96, 3) := by decide +kernel
theorem d_M_init_341 : decode c_M_init 341 = .ok (.return_, 1) := by decide +kernel
theorem d_M_isReplica_0 : decode c_M_isReplica 0 = .ok (.iload_n 1, 1) := by decide +kernel
theorem d_M_isReplica_1 : decode c_M_isReplica 1 = .ok (.ifCond .lt 15, 3) := by decide +kernel
theorem d_M_isReplica_4 : decode c_M_isReplica 4 = .ok (.iload_n 1, 1) := by decide +kernel
theorem d_M_isReplica_5 : decode c_M_isReplica 5 = .ok (.aload_n 0, 1) := by decide +kernel
theorem d_M_isReplica_6 : decode c_M_isReplica 6 = .ok (.getfield 90, 3) := by decide +kernel
theorem d_M_isReplica_9 : decode c_M_isReplica 9 = .ok (.if_icmp .ge 7, 3) := by decide +kernel
theorem d_M_isReplica_12 : decode c_M_isReplica 12 = .ok (.iconst 1, 1) := by decide +kernel
theorem d_M_isReplica_13 : decode c_M_isReplica 13 = .ok (.goto 4, 3) := by decide +kernel
theorem d_M_isReplica_16 : decode c_M_isReplica 16 = .ok (.iconst 0, 1) := by decide +kernel
theorem d_M_isReplica_17 : decode c_M_isReplica 17 = .ok (.ireturn, 1) := by decide +kernel
theorem d_M_isCorrect_0 : decode c_M_isCorrect 0 = .ok (.aload_n 0, 1) := by decide +kernel
theorem d_M_isCorrect_1 : decode c_M_isCorrect 1 = .ok (.iload_n 1, 1) := by decide +kernel
theorem d_M_isCorrect_2 : decode c_M_isCorrect 2 = .ok (.invokevirtual 99, 3) := by decide +kernel
theorem d_M_isCorrect_5 : decode c_M_isCorrect 5 = .ok (.ifCond .eq 18, 3) := by decide +kernel
theorem d_M_isCorrect_8 : decode c_M_isCorrect 8 = .ok (.aload_n 0, 1) := by decide +kernel
theorem d_M_isCorrect_9 : decode c_M_isCorrect 9 = .ok (.getfield 96, 3) := by decide +kernel
theorem d_M_isCorrect_12 : decode c_M_isCorrect 12 = .ok (.iload_n 1, 1) := by decide +kernel
theorem d_M_isCorrect_13 : decode c_M_isCorrect 13 = .ok (.ishr, 1) := by decide +kernel
theorem d_M_isCorrect_14 : decode c_M_isCorrect 14 = .ok (.iconst 1, 1) := by decide +kernel
theorem d_M_isCorrect_15 : decode c_M_isCorrect 15 = .ok (.iand, 1) := by decide +kernel
theorem d_M_isCorrect_16 : decode c_M_isCorrect 16 = .ok (.ifCond .ne 7, 3) := by decide +kernel
theorem d_M_isCorrect_19 : decode c_M_isCorrect 19 = .ok (.iconst 1, 1) := by decide +kernel
theorem d_M_isCorrect_20 : decode c_M_isCorrect 20 = .ok (.goto 4, 3) := by decide +kernel
theorem d_M_isCorrect_23 : decode c_M_isCorrect 23 = .ok (.iconst 0, 1) := by decide +kernel
theorem d_M_isCorrect_24 : decode c_M_isCorrect 24 = .ok (.ireturn, 1) := by decide +kernel
theorem d_M_isCorrupt_0 : decode c_M_isCorrupt 0 = .ok (.aload_n 0, 1) := by decide +kernel
theorem d_M_isCorrupt_1 : decode c_M_isCorrupt 1 = .ok (.iload_n 1, 1) := by decide +kernel
theorem d_M_isCorrupt_2 : decode c_M_isCorrupt 2 = .ok (.invokevirtual 99, 3) := by decide +kernel
theorem d_M_isCorrupt_5 : decode c_M_isCorrupt 5 = .ok (.ifCond .eq 19, 3) := by decide +kernel
theorem d_M_isCorrupt_8 : decode c_M_isCorrupt 8 = .ok (.aload_n 0, 1) := by decide +kernel
theorem d_M_isCorrupt_9 : decode c_M_isCorrupt 9 = .ok (.getfield 96, 3) := by decide +kernel
theorem d_M_isCorrupt_12 : decode c_M_isCorrupt 12 = .ok (.iload_n 1, 1) := by decide +kernel
theorem d_M_isCorrupt_13 : decode c_M_isCorrupt 13 = .ok (.ishr, 1) := by decide +kernel
theorem d_M_isCorrupt_14 : decode c_M_isCorrupt 14 = .ok (.iconst 1, 1) := by decide +kernel
theorem d_M_isCorrupt_15 : decode c_M_isCorrupt 15 = .ok (.iand, 1) := by decide +kernel
theorem d_M_isCorrupt_16 : decode c_M_isCorrupt 16 = .ok (.iconst 1, 1) := by decide +kernel
theorem d_M_isCorrupt_17 : decode c_M_isCorrupt 17 = .ok (.if_icmp .ne 7, 3) := by decide +kernel
theorem d_M_isCorrupt_20 : decode c_M_isCorrupt 20 = .ok (.iconst 1, 1) := by decide +kernel
theorem d_M_isCorrupt_21 : decode c_M_isCorrupt 21 = .ok (.goto 4, 3) := by decide +kernel
theorem d_M_isCorrupt_24 : decode c_M_isCorrupt 24 = .ok (.iconst 0, 1) := by decide +kernel
theorem d_M_isCorrupt_25 : decode c_M_isCorrupt 25 = .ok (.ireturn, 1) := by decide +kernel
theorem d_M_isBlock_0 : decode c_M_isBlock 0 = .ok (.iload_n 1, 1) := by decide +kernel
theorem d_M_isBlock_1 : decode c_M_isBlock 1 = .ok (.ifCond .lt 15, 3) := by decide +kernel
theorem d_M_isBlock_4 : decode c_M_isBlock 4 = .ok (.iload_n 1, 1) := by decide +kernel
theorem d_M_isBlock_5 : decode c_M_isBlock 5 = .ok (.aload_n 0, 1) := by decide +kernel
theorem d_M_isBlock_6 : decode c_M_isBlock 6 = .ok (.getfield 22, 3) := by decide +kernel
theorem d_M_isBlock_9 : decode c_M_isBlock 9 = .ok (.if_icmp .ge 7, 3) := by decide +kernel
theorem d_M_isBlock_12 : decode c_M_isBlock 12 = .ok (.iconst 1, 1) := by decide +kernel
theorem d_M_isBlock_13 : decode c_M_isBlock 13 = .ok (.goto 4, 3) := by decide +kernel
theorem d_M_isBlock_16 : decode c_M_isBlock 16 = .ok (.iconst 0, 1) := by decide +kernel
theorem d_M_isBlock_17 : decode c_M_isBlock 17 = .ok (.ireturn, 1) := by decide +kernel
theorem d_M_leader_0 : decode c_M_leader 0 = .ok (.iload_n 1, 1) := by decide +kernel
theorem d_M_leader_1 : decode c_M_leader 1 = .ok (.iconst 1, 1) := by decide +kernel
theorem d_M_leader_2 : decode c_M_leader 2 = .ok (.isub, 1) := by decide +kernel
theorem d_M_leader_3 : decode c_M_leader 3 = .ok (.aload_n 0, 1) := by decide +kernel
theorem d_M_leader_4 : decode c_M_leader 4 = .ok (.getfield 93, 3) := by decide +kernel
theorem d_M_leader_7 : decode c_M_leader 7 = .ok (.idiv, 1) := by decide +kernel
theorem d_M_leader_8 : decode c_M_leader 8 = .ok (.aload_n 0, 1) := by decide +kernel
theorem d_M_leader_9 : decode c_M_leader 9 = .ok (.getfield 90, 3) := by decide +kernel
theorem d_M_leader_12 : decode c_M_leader 12 = .ok (.irem, 1) := by decide +kernel
theorem d_M_leader_13 : decode c_M_leader 13 = .ok (.ireturn, 1) := by decide +kernel
theorem d_M_size_0 : decode c_M_size 0 = .ok (.iconst 0, 1) := by decide +kernel
theorem d_M_size_1 : decode c_M_size 1 = .ok (.istore_n 1, 1) := by decide +kernel
theorem d_M_size_2 : decode c_M_size 2 = .ok (.iconst 0, 1) := by decide +kernel
theorem d_M_size_3 : decode c_M_size 3 = .ok (.istore_n 2, 1) := by decide +kernel
theorem d_M_size_4 : decode c_M_size 4 = .ok (.iload_n 2, 1) := by decide +kernel
theorem d_M_size_5 : decode c_M_size 5 = .ok (.bipush 7, 2) := by decide +kernel
theorem d_M_size_7 : decode c_M_size 7 = .ok (.if_icmp .ge 17, 3) := by decide +kernel
theorem d_M_size_10 : decode c_M_size 10 = .ok (.iload_n 1, 1) := by decide +kernel
theorem d_M_size_11 : decode c_M_size 11 = .ok (.iload_n 0, 1) := by decide +kernel
theorem d_M_size_12 : decode c_M_size 12 = .ok (.iload_n 2, 1) := by decide +kernel
theorem d_M_size_13 : decode c_M_size 13 = .ok (.ishr, 1) := by decide +kernel
theorem d_M_size_14 : decode c_M_size 14 = .ok (.iconst 1, 1) := by decide +kernel
theorem d_M_size_15 : decode c_M_size 15 = .ok (.iand, 1) := by decide +kernel
theorem d_M_size_16 : decode c_M_size 16 = .ok (.iadd, 1) := by decide +kernel
theorem d_M_size_17 : decode c_M_size 17 = .ok (.istore_n 1, 1) := by decide +kernel
theorem d_M_size_18 : decode c_M_size 18 = .ok (.iinc 2 1, 3) := by decide +kernel
theorem d_M_size_21 : decode c_M_size 21 = .ok (.goto (-17), 3) := by decide +kernel
theorem d_M_size_24 : decode c_M_size 24 = .ok (.iload_n 1, 1) := by decide +kernel
theorem d_M_size_25 : decode c_M_size 25 = .ok (.ireturn, 1) := by decide +kernel
theorem d_M_certified_0 : decode c_M_certified 0 = .ok (.iload_n 1, 1) := by decide +kernel
theorem d_M_certified_1 : decode c_M_certified 1 = .ok (.ifCond .eq 28, 3) := by decide +kernel
theorem d_M_certified_4 : decode c_M_certified 4 = .ok (.aload_n 0, 1) := by decide +kernel
theorem d_M_certified_5 : decode c_M_certified 5 = .ok (.getfield 35, 3) := by decide +kernel
theorem d_M_certified_8 : decode c_M_certified 8 = .ok (.iload_n 1, 1) := by decide +kernel
theorem d_M_certified_9 : decode c_M_certified 9 = .ok (.iaload, 1) := by decide +kernel
theorem d_M_certified_10 : decode c_M_certified 10 = .ok (.aload_n 0, 1) := by decide +kernel
theorem d_M_certified_11 : decode c_M_certified 11 = .ok (.getfield 96, 3) := by decide +kernel
theorem d_M_certified_14 : decode c_M_certified 14 = .ok (.ior, 1) := by decide +kernel
theorem d_M_certified_15 : decode c_M_certified 15 = .ok (.invokestatic 103, 3) := by decide +kernel
theorem d_M_certified_18 : decode c_M_certified 18 = .ok (.iconst 2, 1) := by decide +kernel
theorem d_M_certified_19 : decode c_M_certified 19 = .ok (.aload_n 0, 1) := by decide +kernel
theorem d_M_certified_20 : decode c_M_certified 20 = .ok (.getfield 87, 3) := by decide +kernel
theorem d_M_certified_23 : decode c_M_certified 23 = .ok (.imul, 1) := by decide +kernel
theorem d_M_certified_24 : decode c_M_certified 24 = .ok (.iconst 1, 1) := by decide +kernel
theorem d_M_certified_25 : decode c_M_certified 25 = .ok (.iadd, 1) := by decide +kernel
theorem d_M_certified_26 : decode c_M_certified 26 = .ok (.if_icmp .lt 7, 3) := by decide +kernel
theorem d_M_certified_29 : decode c_M_certified 29 = .ok (.iconst 1, 1) := by decide +kernel
theorem d_M_certified_30 : decode c_M_certified 30 = .ok (.goto 4, 3) := by decide +kernel
theorem d_M_certified_33 : decode c_M_certified 33 = .ok (.iconst 0, 1) := by decide +kernel
theorem d_M_certified_34 : decode c_M_certified 34 = .ok (.ireturn, 1) := by decide +kernel
theorem d_M_inChain_0 : decode c_M_inChain 0 = .ok (.iload_n 2, 1) := by decide +kernel
theorem d_M_inChain_1 : decode c_M_inChain 1 = .ok (.istore_n 3, 1) := by decide +kernel
theorem d_M_inChain_2 : decode c_M_inChain 2 = .ok (.iconst 0, 1) := by decide +kernel
theorem d_M_inChain_3 : decode c_M_inChain 3 = .ok (.istore 4, 2) := by decide +kernel
theorem d_M_inChain_5 : decode c_M_inChain 5 = .ok (.iload 4, 2) := by decide +kernel
theorem d_M_inChain_7 : decode c_M_inChain 7 = .ok (.bipush 40, 2) := by decide +kernel
theorem d_M_inChain_9 : decode c_M_inChain 9 = .ok (.if_icmp .ge 25, 3) := by decide +kernel
theorem d_M_inChain_12 : decode c_M_inChain 12 = .ok (.iload_n 3, 1) := by decide +kernel
theorem d_M_inChain_13 : decode c_M_inChain 13 = .ok (.iload_n 1, 1) := by decide +kernel
theorem d_M_inChain_14 : decode c_M_inChain 14 = .ok (.if_icmp .eq 20, 3) := by decide +kernel
theorem d_M_inChain_17 : decode c_M_inChain 17 = .ok (.iload_n 3, 1) := by decide +kernel
theorem d_M_inChain_18 : decode c_M_inChain 18 = .ok (.ifCond .eq 16, 3) := by decide +kernel
theorem d_M_inChain_21 : decode c_M_inChain 21 = .ok (.aload_n 0, 1) := by decide +kernel
theorem d_M_inChain_22 : decode c_M_inChain 22 = .ok (.getfield 29, 3) := by decide +kernel
theorem d_M_inChain_25 : decode c_M_inChain 25 = .ok (.iload_n 3, 1) := by decide +kernel
theorem d_M_inChain_26 : decode c_M_inChain 26 = .ok (.iaload, 1) := by decide +kernel
theorem d_M_inChain_27 : decode c_M_inChain 27 = .ok (.istore_n 3, 1) := by decide +kernel
theorem d_M_inChain_28 : decode c_M_inChain 28 = .ok (.iinc 4 1, 3) := by decide +kernel
theorem d_M_inChain_31 : decode c_M_inChain 31 = .ok (.goto (-26), 3) := by decide +kernel
theorem d_M_inChain_34 : decode c_M_inChain 34 = .ok (.iload_n 3, 1) := by decide +kernel
theorem d_M_inChain_35 : decode c_M_inChain 35 = .ok (.iload_n 1, 1) := by decide +kernel
theorem d_M_inChain_36 : decode c_M_inChain 36 = .ok (.if_icmp .ne 7, 3) := by decide +kernel
theorem d_M_inChain_39 : decode c_M_inChain 39 = .ok (.iconst 1, 1) := by decide +kernel
theorem d_M_inChain_40 : decode c_M_inChain 40 = .ok (.goto 4, 3) := by decide +kernel
theorem d_M_inChain_43 : decode c_M_inChain 43 = .ok (.iconst 0, 1) := by decide +kernel
theorem d_M_inChain_44 : decode c_M_inChain 44 = .ok (.ireturn, 1) := by decide +kernel
theorem d_M_high_0 : decode c_M_high 0 = .ok (.iconst 0, 1) := by decide +kernel
theorem d_M_high_1 : decode c_M_high 1 = .ok (.istore_n 2, 1) := by decide +kernel
theorem d_M_high_2 : decode c_M_high 2 = .ok (.iconst 1, 1) := by decide +kernel
theorem d_M_high_3 : decode c_M_high 3 = .ok (.istore_n 3, 1) := by decide +kernel
theorem d_M_high_4 : decode c_M_high 4 = .ok (.iload_n 3, 1) := by decide +kernel
theorem d_M_high_5 : decode c_M_high 5 = .ok (.aload_n 0, 1) := by decide +kernel
theorem d_M_high_6 : decode c_M_high 6 = .ok (.getfield 22, 3) := by decide +kernel
theorem d_M_high_9 : decode c_M_high 9 = .ok (.if_icmp .ge 40, 3) := by decide +kernel
theorem d_M_high_12 : decode c_M_high 12 = .ok (.aload_n 0, 1) := by decide +kernel
theorem d_M_high_13 : decode c_M_high 13 = .ok (.getfield 68, 3) := by decide +kernel
theorem d_M_high_16 : decode c_M_high 16 = .ok (.bipush 40, 2) := by decide +kernel
theorem d_M_high_18 : decode c_M_high 18 = .ok (.iload_n 1, 1) := by decide +kernel
theorem d_M_high_19 : decode c_M_high 19 = .ok (.imul, 1) := by decide +kernel
theorem d_M_high_20 : decode c_M_high 20 = .ok (.iload_n 3, 1) := by decide +kernel
theorem d_M_high_21 : decode c_M_high 21 = .ok (.iadd, 1) := by decide +kernel
theorem d_M_high_22 : decode c_M_high 22 = .ok (.baload, 1) := by decide +kernel
theorem d_M_high_23 : decode c_M_high 23 = .ok (.ifCond .eq 20, 3) := by decide +kernel
theorem d_M_high_26 : decode c_M_high 26 = .ok (.aload_n 0, 1) := by decide +kernel
theorem d_M_high_27 : decode c_M_high 27 = .ok (.getfield 26, 3) := by decide +kernel
theorem d_M_high_30 : decode c_M_high 30 = .ok (.iload_n 3, 1) := by decide +kernel
theorem d_M_high_31 : decode c_M_high 31 = .ok (.iaload, 1) := by decide +kernel
theorem d_M_high_32 : decode c_M_high 32 = .ok (.aload_n 0, 1) := by decide +kernel
theorem d_M_high_33 : decode c_M_high 33 = .ok (.getfield 26, 3) := by decide +kernel
theorem d_M_high_36 : decode c_M_high 36 = .ok (.iload_n 2, 1) := by decide +kernel
theorem d_M_high_37 : decode c_M_high 37 = .ok (.iaload, 1) := by decide +kernel
theorem d_M_high_38 : decode c_M_high 38 = .ok (.if_icmp .le 5, 3) := by decide +kernel
theorem d_M_high_41 : decode c_M_high 41 = .ok (.iload_n 3, 1) := by decide +kernel
theorem d_M_high_42 : decode c_M_high 42 = .ok (.istore_n 2, 1) := by decide +kernel
theorem d_M_high_43 : decode c_M_high 43 = .ok (.iinc 3 1, 3) := by decide +kernel
theorem d_M_high_46 : decode c_M_high 46 = .ok (.goto (-42), 3) := by decide +kernel
theorem d_M_high_49 : decode c_M_high 49 = .ok (.iload_n 2, 1) := by decide +kernel
theorem d_M_high_50 : decode c_M_high 50 = .ok (.ireturn, 1) := by decide +kernel
theorem d_M_lock_0 : decode c_M_lock 0 = .ok (.iconst 0, 1) := by decide +kernel
theorem d_M_lock_1 : decode c_M_lock 1 = .ok (.istore_n 2, 1) := by decide +kernel
theorem d_M_lock_2 : decode c_M_lock 2 = .ok (.iconst 1, 1) := by decide +kernel
theorem d_M_lock_3 : decode c_M_lock 3 = .ok (.istore_n 3, 1) := by decide +kernel
theorem d_M_lock_4 : decode c_M_lock 4 = .ok (.iload_n 3, 1) := by decide +kernel
theorem d_M_lock_5 : decode c_M_lock 5 = .ok (.aload_n 0, 1) := by decide +kernel
theorem d_M_lock_6 : decode c_M_lock 6 = .ok (.getfield 22, 3) := by decide +kernel
theorem d_M_lock_9 : decode c_M_lock 9 = .ok (.if_icmp .ge 50, 3) := by decide +kernel
theorem d_M_lock_12 : decode c_M_lock 12 = .ok (.aload_n 0, 1) := by decide +kernel
theorem d_M_lock_13 : decode c_M_lock 13 = .ok (.getfield 68, 3) := by decide +kernel
theorem d_M_lock_16 : decode c_M_lock 16 = .ok (.bipush 40, 2) := by decide +kernel
theorem d_M_lock_18 : decode c_M_lock 18 = .ok (.iload_n 1, 1) := by decide +kernel
theorem d_M_lock_19 : decode c_M_lock 19 = .ok (.imul, 1) := by decide +kernel
theorem d_M_lock_20 : decode c_M_lock 20 = .ok (.iload_n 3, 1) := by decide +kernel
theorem d_M_lock_21 : decode c_M_lock 21 = .ok (.iadd, 1) := by decide +kernel
theorem d_M_lock_22 : decode c_M_lock 22 = .ok (.baload, 1) := by decide +kernel
theorem d_M_lock_23 : decode c_M_lock 23 = .ok (.ifCond .eq 30, 3) := by decide +kernel
theorem d_M_lock_26 : decode c_M_lock 26 = .ok (.aload_n 0, 1) := by decide +kernel
theorem d_M_lock_27 : decode c_M_lock 27 = .ok (.getfield 26, 3) := by decide +kernel
theorem d_M_lock_30 : decode c_M_lock 30 = .ok (.aload_n 0, 1) := by decide +kernel
theorem d_M_lock_31 : decode c_M_lock 31 = .ok (.getfield 29, 3) := by decide +kernel
theorem d_M_lock_34 : decode c_M_lock 34 = .ok (.iload_n 3, 1) := by decide +kernel
theorem d_M_lock_35 : decode c_M_lock 35 = .ok (.iaload, 1) := by decide +kernel
theorem d_M_lock_36 : decode c_M_lock 36 = .ok (.iaload, 1) := by decide +kernel
theorem d_M_lock_37 : decode c_M_lock 37 = .ok (.aload_n 0, 1) := by decide +kernel
theorem d_M_lock_38 : decode c_M_lock 38 = .ok (.getfield 26, 3) := by decide +kernel
theorem d_M_lock_41 : decode c_M_lock 41 = .ok (.iload_n 2, 1) := by decide +kernel
theorem d_M_lock_42 : decode c_M_lock 42 = .ok (.iaload, 1) := by decide +kernel
theorem d_M_lock_43 : decode c_M_lock 43 = .ok (.if_icmp .le 10, 3) := by decide +kernel
theorem d_M_lock_46 : decode c_M_lock 46 = .ok (.aload_n 0, 1) := by decide +kernel
theorem d_M_lock_47 : decode c_M_lock 47 = .ok (.getfield 29, 3) := by decide +kernel
theorem d_M_lock_50 : decode c_M_lock 50 = .ok (.iload_n 3, 1) := by decide +kernel
theorem d_M_lock_51 : decode c_M_lock 51 = .ok (.iaload, 1) := by decide +kernel
theorem d_M_lock_52 : decode c_M_lock 52 = .ok (.istore_n 2, 1) := by decide +kernel
theorem d_M_lock_53 : decode c_M_lock 53 = .ok (.iinc 3 1, 3) := by decide +kernel
theorem d_M_lock_56 : decode c_M_lock 56 = .ok (.goto (-52), 3) := by decide +kernel
theorem d_M_lock_59 : decode c_M_lock 59 = .ok (.iload_n 2, 1) := by decide +kernel
theorem d_M_lock_60 : decode c_M_lock 60 = .ok (.ireturn, 1) := by decide +kernel
theorem d_M_tip_0 : decode c_M_tip 0 = .ok (.iconst 0, 1) := by decide +kernel
theorem d_M_tip_1 : decode c_M_tip 1 = .ok (.istore_n 2, 1) := by decide +kernel
theorem d_M_tip_2 : decode c_M_tip 2 = .ok (.iconst 1, 1) := by decide +kernel
theorem d_M_tip_3 : decode c_M_tip 3 = .ok (.istore_n 3, 1) := by decide +kernel
theorem d_M_tip_4 : decode c_M_tip 4 = .ok (.iload_n 3, 1) := by decide +kernel
theorem d_M_tip_5 : decode c_M_tip 5 = .ok (.aload_n 0, 1) := by decide +kernel
theorem d_M_tip_6 : decode c_M_tip 6 = .ok (.getfield 22, 3) := by decide +kernel
theorem d_M_tip_9 : decode c_M_tip 9 = .ok (.if_icmp .ge 113, 3) := by decide +kernel
theorem d_M_tip_12 : decode c_M_tip 12 = .ok (.aload_n 0, 1) := by decide +kernel
theorem d_M_tip_13 : decode c_M_tip 13 = .ok (.getfield 29, 3) := by decide +kernel
theorem d_M_tip_16 : decode c_M_tip 16 = .ok (.iload_n 3, 1) := by decide +kernel
theorem d_M_tip_17 : decode c_M_tip 17 = .ok (.iaload, 1) := by decide +kernel
theorem d_M_tip_18 : decode c_M_tip 18 = .ok (.istore 4, 2) := by decide +kernel
theorem d_M_tip_20 : decode c_M_tip 20 = .ok (.aload_n 0, 1) := by decide +kernel
theorem d_M_tip_21 : decode c_M_tip 21 = .ok (.getfield 29, 3) := by decide +kernel
theorem d_M_tip_24 : decode c_M_tip 24 = .ok (.iload 4, 2) := by decide +kernel
theorem d_M_tip_26 : decode c_M_tip 26 = .ok (.iaload, 1) := by decide +kernel
theorem d_M_tip_27 : decode c_M_tip 27 = .ok (.istore 5, 2) := by decide +kernel
theorem d_M_tip_29 : decode c_M_tip 29 = .ok (.aload_n 0, 1) := by decide +kernel
theorem d_M_tip_30 : decode c_M_tip 30 = .ok (.getfield 68, 3) := by decide +kernel
theorem d_M_tip_33 : decode c_M_tip 33 = .ok (.bipush 40, 2) := by decide +kernel
theorem d_M_tip_35 : decode c_M_tip 35 = .ok (.iload_n 1, 1) := by decide +kernel
theorem d_M_tip_36 : decode c_M_tip 36 = .ok (.imul, 1) := by decide +kernel
theorem d_M_tip_37 : decode c_M_tip 37 = .ok (.iload_n 3, 1) := by decide +kernel
theorem d_M_tip_38 : decode c_M_tip 38 = .ok (.iadd, 1) := by decide +kernel
theorem d_M_tip_39 : decode c_M_tip 39 = .ok (.baload, 1) := by decide +kernel
theorem d_M_tip_40 : decode c_M_tip 40 = .ok (.ifCond .eq 49, 3) := by decide +kernel
theorem d_M_tip_43 : decode c_M_tip 43 = .ok (.iload 4, 2) := by decide +kernel
theorem d_M_tip_45 : decode c_M_tip 45 = .ok (.ifCond .le 44, 3) := by decide +kernel
theorem d_M_tip_48 : decode c_M_tip 48 = .ok (.aload_n 0, 1) := by decide +kernel
theorem d_M_tip_49 : decode c_M_tip 49 = .ok (.getfield 26, 3) := by decide +kernel
theorem d_M_tip_52 : decode c_M_tip 52 = .ok (.iload_n 3, 1) := by decide +kernel
theorem d_M_tip_53 : decode c_M_tip 53 = .ok (.iaload, 1) := by decide +kernel
theorem d_M_tip_54 : decode c_M_tip 54 = .ok (.aload_n 0, 1) := by decide +kernel
theorem d_M_tip_55 : decode c_M_tip 55 = .ok (.getfield 26, 3) := by decide +kernel
theorem d_M_tip_58 : decode c_M_tip 58 = .ok (.iload 4, 2) := by decide +kernel
theorem d_M_tip_60 : decode c_M_tip 60 = .ok (.iaload, 1) := by decide +kernel
theorem d_M_tip_61 : decode c_M_tip 61 = .ok (.iconst 1, 1) := by decide +kernel
theorem d_M_tip_62 : decode c_M_tip 62 = .ok (.iadd, 1) := by decide +kernel
theorem d_M_tip_63 : decode c_M_tip 63 = .ok (.if_icmp .ne 26, 3) := by decide +kernel
theorem d_M_tip_66 : decode c_M_tip 66 = .ok (.aload_n 0, 1) := by decide +kernel
theorem d_M_tip_67 : decode c_M_tip 67 = .ok (.getfield 26, 3) := by decide +kernel
theorem d_M_tip_70 : decode c_M_tip 70 = .ok (.iload 4, 2) := by decide +kernel
theorem d_M_tip_72 : decode c_M_tip 72 = .ok (.iaload, 1) := by decide +kernel
theorem d_M_tip_73 : decode c_M_tip 73 = .ok (.aload_n 0, 1) := by decide +kernel
theorem d_M_tip_74 : decode c_M_tip 74 = .ok (.getfield 26, 3) := by decide +kernel
theorem d_M_tip_77 : decode c_M_tip 77 = .ok (.iload 5, 2) := by decide +kernel
theorem d_M_tip_79 : decode c_M_tip 79 = .ok (.iaload, 1) := by decide +kernel
theorem d_M_tip_80 : decode c_M_tip 80 = .ok (.iconst 1, 1) := by decide +kernel
theorem d_M_tip_81 : decode c_M_tip 81 = .ok (.iadd, 1) := by decide +kernel
theorem d_M_tip_82 : decode c_M_tip 82 = .ok (.if_icmp .ne 7, 3) := by decide +kernel
theorem d_M_tip_85 : decode c_M_tip 85 = .ok (.iconst 1, 1) := by decide +kernel
theorem d_M_tip_86 : decode c_M_tip 86 = .ok (.goto 4, 3) := by decide +kernel
theorem d_M_tip_89 : decode c_M_tip 89 = .ok (.iconst 0, 1) := by decide +kernel
theorem d_M_tip_90 : decode c_M_tip 90 = .ok (.istore 6, 2) := by decide +kernel
theorem d_M_tip_92 : decode c_M_tip 92 = .ok (.iload 6, 2) := by decide +kernel
theorem d_M_tip_94 : decode c_M_tip 94 = .ok (.ifCond .eq 22, 3) := by decide +kernel
theorem d_M_tip_97 : decode c_M_tip 97 = .ok (.aload_n 0, 1) := by decide +kernel
theorem d_M_tip_98 : decode c_M_tip 98 = .ok (.getfield 26, 3) := by decide +kernel
theorem d_M_tip_101 : decode c_M_tip 101 = .ok (.iload 5, 2) := by decide +kernel
theorem d_M_tip_103 : decode c_M_tip 103 = .ok (.iaload, 1) := by decide +kernel
theorem d_M_tip_104 : decode c_M_tip 104 = .ok (.aload_n 0, 1) := by decide +kernel
theorem d_M_tip_105 : decode c_M_tip 105 = .ok (.getfield 26, 3) := by decide +kernel
theorem d_M_tip_108 : decode c_M_tip 108 = .ok (.iload_n 2, 1) := by decide +kernel
theorem d_M_tip_109 : decode c_M_tip 109 = .ok (.iaload, 1) := by decide +kernel
theorem d_M_tip_110 : decode c_M_tip 110 = .ok (.if_icmp .le 6, 3) := by decide +kernel
theorem d_M_tip_113 : decode c_M_tip 113 = .ok (.iload 5, 2) := by decide +kernel
theorem d_M_tip_115 : decode c_M_tip 115 = .ok (.istore_n 2, 1) := by decide +kernel
theorem d_M_tip_116 : decode c_M_tip 116 = .ok (.iinc 3 1, 3) := by decide +kernel
theorem d_M_tip_119 : decode c_M_tip 119 = .ok (.goto (-115), 3) := by decide +kernel
theorem d_M_tip_122 : decode c_M_tip 122 = .ok (.iload_n 2, 1) := by decide +kernel
theorem d_M_tip_123 : decode c_M_tip 123 = .ok (.ireturn, 1) := by decide +kernel
