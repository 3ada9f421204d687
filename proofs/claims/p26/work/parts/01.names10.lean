theorem dL_areLegs_0 : decode cL_areLegs 0 = .ok (.aload_n 0, 1) := by decide +kernel
theorem dL_areLegs_1 : decode cL_areLegs 1 = .ok (.iconst 0, 1) := by decide +kernel
theorem dL_areLegs_2 : decode cL_areLegs 2 = .ok (.iconst 3, 1) := by decide +kernel
theorem dL_areLegs_3 : decode cL_areLegs 3 = .ok (.iconst 0, 1) := by decide +kernel
theorem dL_areLegs_4 : decode cL_areLegs 4 = .ok (.iconst 0, 1) := by decide +kernel
theorem dL_areLegs_5 : decode cL_areLegs 5 = .ok (.invokestatic 79, 3) := by decide +kernel
theorem dL_areLegs_8 : decode cL_areLegs 8 = .ok (.bipush (-30), 2) := by decide +kernel
theorem dL_areLegs_10 : decode cL_areLegs 10 = .ok (.if_icmp .ne 74, 3) := by decide +kernel
theorem dL_areLegs_13 : decode cL_areLegs 13 = .ok (.aload_n 0, 1) := by decide +kernel
theorem dL_areLegs_14 : decode cL_areLegs 14 = .ok (.iconst 1, 1) := by decide +kernel
theorem dL_areLegs_15 : decode cL_areLegs 15 = .ok (.iconst (-1), 1) := by decide +kernel
theorem dL_areLegs_16 : decode cL_areLegs 16 = .ok (.iconst 0, 1) := by decide +kernel
theorem dL_areLegs_17 : decode cL_areLegs 17 = .ok (.iconst 0, 1) := by decide +kernel
theorem dL_areLegs_18 : decode cL_areLegs 18 = .ok (.invokestatic 79, 3) := by decide +kernel
theorem dL_areLegs_21 : decode cL_areLegs 21 = .ok (.bipush (-30), 2) := by decide +kernel
theorem dL_areLegs_23 : decode cL_areLegs 23 = .ok (.if_icmp .ne 61, 3) := by decide +kernel
theorem dL_areLegs_26 : decode cL_areLegs 26 = .ok (.aload_n 0, 1) := by decide +kernel
theorem dL_areLegs_27 : decode cL_areLegs 27 = .ok (.iconst 2, 1) := by decide +kernel
theorem dL_areLegs_28 : decode cL_areLegs 28 = .ok (.iconst 3, 1) := by decide +kernel
theorem dL_areLegs_29 : decode cL_areLegs 29 = .ok (.iconst 0, 1) := by decide +kernel
theorem dL_areLegs_30 : decode cL_areLegs 30 = .ok (.iconst 0, 1) := by decide +kernel
theorem dL_areLegs_31 : decode cL_areLegs 31 = .ok (.invokestatic 79, 3) := by decide +kernel
theorem dL_areLegs_34 : decode cL_areLegs 34 = .ok (.bipush (-30), 2) := by decide +kernel
theorem dL_areLegs_36 : decode cL_areLegs 36 = .ok (.if_icmp .ne 48, 3) := by decide +kernel
theorem dL_areLegs_39 : decode cL_areLegs 39 = .ok (.aload_n 0, 1) := by decide +kernel
theorem dL_areLegs_40 : decode cL_areLegs 40 = .ok (.iconst 2, 1) := by decide +kernel
theorem dL_areLegs_41 : decode cL_areLegs 41 = .ok (.iconst 0, 1) := by decide +kernel
theorem dL_areLegs_42 : decode cL_areLegs 42 = .ok (.iconst 0, 1) := by decide +kernel
theorem dL_areLegs_43 : decode cL_areLegs 43 = .ok (.iconst 0, 1) := by decide +kernel
theorem dL_areLegs_44 : decode cL_areLegs 44 = .ok (.invokestatic 79, 3) := by decide +kernel
theorem dL_areLegs_47 : decode cL_areLegs 47 = .ok (.bipush (-20), 2) := by decide +kernel
theorem dL_areLegs_49 : decode cL_areLegs 49 = .ok (.if_icmp .ne 35, 3) := by decide +kernel
theorem dL_areLegs_52 : decode cL_areLegs 52 = .ok (.aload_n 0, 1) := by decide +kernel
theorem dL_areLegs_53 : decode cL_areLegs 53 = .ok (.iconst 2, 1) := by decide +kernel
theorem dL_areLegs_54 : decode cL_areLegs 54 = .ok (.iconst 0, 1) := by decide +kernel
theorem dL_areLegs_55 : decode cL_areLegs 55 = .ok (.sipush 1001, 3) := by decide +kernel
theorem dL_areLegs_58 : decode cL_areLegs 58 = .ok (.iconst 0, 1) := by decide +kernel
theorem dL_areLegs_59 : decode cL_areLegs 59 = .ok (.invokestatic 79, 3) := by decide +kernel
theorem dL_areLegs_62 : decode cL_areLegs 62 = .ok (.bipush (-20), 2) := by decide +kernel
theorem dL_areLegs_64 : decode cL_areLegs 64 = .ok (.if_icmp .ne 20, 3) := by decide +kernel
theorem dL_areLegs_67 : decode cL_areLegs 67 = .ok (.aload_n 0, 1) := by decide +kernel
theorem dL_areLegs_68 : decode cL_areLegs 68 = .ok (.iconst 3, 1) := by decide +kernel
theorem dL_areLegs_69 : decode cL_areLegs 69 = .ok (.iconst 3, 1) := by decide +kernel
theorem dL_areLegs_70 : decode cL_areLegs 70 = .ok (.iconst 0, 1) := by decide +kernel
theorem dL_areLegs_71 : decode cL_areLegs 71 = .ok (.iconst 0, 1) := by decide +kernel
theorem dL_areLegs_72 : decode cL_areLegs 72 = .ok (.invokestatic 79, 3) := by decide +kernel
theorem dL_areLegs_75 : decode cL_areLegs 75 = .ok (.bipush (-30), 2) := by decide +kernel
theorem dL_areLegs_77 : decode cL_areLegs 77 = .ok (.if_icmp .ne 7, 3) := by decide +kernel
theorem dL_areLegs_80 : decode cL_areLegs 80 = .ok (.iconst 1, 1) := by decide +kernel
theorem dL_areLegs_81 : decode cL_areLegs 81 = .ok (.goto 4, 3) := by decide +kernel
theorem dL_areLegs_84 : decode cL_areLegs 84 = .ok (.iconst 0, 1) := by decide +kernel
theorem dL_areLegs_85 : decode cL_areLegs 85 = .ok (.istore 6, 2) := by decide +kernel
theorem dL_areLegs_87 : decode cL_areLegs 87 = .ok (.iconst 0, 1) := by decide +kernel
theorem dL_areLegs_88 : decode cL_areLegs 88 = .ok (.istore 7, 2) := by decide +kernel
theorem dL_areLegs_90 : decode cL_areLegs 90 = .ok (.iconst 0, 1) := by decide +kernel
theorem dL_areLegs_91 : decode cL_areLegs 91 = .ok (.istore 8, 2) := by decide +kernel
theorem dL_areLegs_93 : decode cL_areLegs 93 = .ok (.iload 8, 2) := by decide +kernel
theorem dL_areLegs_95 : decode cL_areLegs 95 = .ok (.aload 4, 2) := by decide +kernel
theorem dL_areLegs_97 : decode cL_areLegs 97 = .ok (.bipush 6, 2) := by decide +kernel
theorem dL_areLegs_99 : decode cL_areLegs 99 = .ok (.iaload, 1) := by decide +kernel
theorem dL_areLegs_100 : decode cL_areLegs 100 = .ok (.if_icmp .ge 21, 3) := by decide +kernel
theorem dL_areLegs_103 : decode cL_areLegs 103 = .ok (.iload 7, 2) := by decide +kernel
theorem dL_areLegs_105 : decode cL_areLegs 105 = .ok (.aload_n 3, 1) := by decide +kernel
theorem dL_areLegs_106 : decode cL_areLegs 106 = .ok (.bipush 20, 2) := by decide +kernel
theorem dL_areLegs_108 : decode cL_areLegs 108 = .ok (.iload 8, 2) := by decide +kernel
theorem dL_areLegs_110 : decode cL_areLegs 110 = .ok (.iadd, 1) := by decide +kernel
theorem dL_areLegs_111 : decode cL_areLegs 111 = .ok (.iaload, 1) := by decide +kernel
theorem dL_areLegs_112 : decode cL_areLegs 112 = .ok (.iadd, 1) := by decide +kernel
theorem dL_areLegs_113 : decode cL_areLegs 113 = .ok (.istore 7, 2) := by decide +kernel
theorem dL_areLegs_115 : decode cL_areLegs 115 = .ok (.iinc 8 1, 3) := by decide +kernel
theorem dL_areLegs_118 : decode cL_areLegs 118 = .ok (.goto (-25), 3) := by decide +kernel
theorem dL_areLegs_121 : decode cL_areLegs 121 = .ok (.aload_n 0, 1) := by decide +kernel
theorem dL_areLegs_122 : decode cL_areLegs 122 = .ok (.invokevirtual 83, 3) := by decide +kernel
theorem dL_areLegs_125 : decode cL_areLegs 125 = .ok (.istore 8, 2) := by decide +kernel
theorem dL_areLegs_127 : decode cL_areLegs 127 = .ok (.iload 6, 2) := by decide +kernel
theorem dL_areLegs_129 : decode cL_areLegs 129 = .ok (.ifCond .eq 66, 3) := by decide +kernel
theorem dL_areLegs_132 : decode cL_areLegs 132 = .ok (.aload_n 0, 1) := by decide +kernel
theorem dL_areLegs_133 : decode cL_areLegs 133 = .ok (.invokevirtual 87, 3) := by decide +kernel
theorem dL_areLegs_136 : decode cL_areLegs 136 = .ok (.iload 8, 2) := by decide +kernel
theorem dL_areLegs_138 : decode cL_areLegs 138 = .ok (.if_icmp .ne 57, 3) := by decide +kernel
theorem dL_areLegs_141 : decode cL_areLegs 141 = .ok (.iload 8, 2) := by decide +kernel
theorem dL_areLegs_143 : decode cL_areLegs 143 = .ok (.ifCond .lt 52, 3) := by decide +kernel
theorem dL_areLegs_146 : decode cL_areLegs 146 = .ok (.aload_n 0, 1) := by decide +kernel
theorem dL_areLegs_147 : decode cL_areLegs 147 = .ok (.invokevirtual 90, 3) := by decide +kernel
theorem dL_areLegs_150 : decode cL_areLegs 150 = .ok (.iload 7, 2) := by decide +kernel
theorem dL_areLegs_152 : decode cL_areLegs 152 = .ok (.if_icmp .ne 43, 3) := by decide +kernel
theorem dL_areLegs_155 : decode cL_areLegs 155 = .ok (.aload_n 0, 1) := by decide +kernel
theorem dL_areLegs_156 : decode cL_areLegs 156 = .ok (.invokevirtual 93, 3) := by decide +kernel
theorem dL_areLegs_159 : decode cL_areLegs 159 = .ok (.aload 4, 2) := by decide +kernel
theorem dL_areLegs_161 : decode cL_areLegs 161 = .ok (.bipush 10, 2) := by decide +kernel
theorem dL_areLegs_163 : decode cL_areLegs 163 = .ok (.iaload, 1) := by decide +kernel
theorem dL_areLegs_164 : decode cL_areLegs 164 = .ok (.i2l, 1) := by decide +kernel
theorem dL_areLegs_165 : decode cL_areLegs 165 = .ok (.lcmp, 1) := by decide +kernel
theorem dL_areLegs_166 : decode cL_areLegs 166 = .ok (.ifCond .ne 29, 3) := by decide +kernel
theorem dL_areLegs_169 : decode cL_areLegs 169 = .ok (.aload_n 0, 1) := by decide +kernel
theorem dL_areLegs_170 : decode cL_areLegs 170 = .ok (.invokevirtual 97, 3) := by decide +kernel
theorem dL_areLegs_173 : decode cL_areLegs 173 = .ok (.aload 4, 2) := by decide +kernel
theorem dL_areLegs_175 : decode cL_areLegs 175 = .ok (.iconst 5, 1) := by decide +kernel
theorem dL_areLegs_176 : decode cL_areLegs 176 = .ok (.iaload, 1) := by decide +kernel
theorem dL_areLegs_177 : decode cL_areLegs 177 = .ok (.if_icmp .ne 18, 3) := by decide +kernel
theorem dL_areLegs_180 : decode cL_areLegs 180 = .ok (.aload_n 0, 1) := by decide +kernel
theorem dL_areLegs_181 : decode cL_areLegs 181 = .ok (.invokevirtual 100, 3) := by decide +kernel
theorem dL_areLegs_184 : decode cL_areLegs 184 = .ok (.aload 4, 2) := by decide +kernel
theorem dL_areLegs_186 : decode cL_areLegs 186 = .ok (.iconst 4, 1) := by decide +kernel
theorem dL_areLegs_187 : decode cL_areLegs 187 = .ok (.iaload, 1) := by decide +kernel
theorem dL_areLegs_188 : decode cL_areLegs 188 = .ok (.if_icmp .ne 7, 3) := by decide +kernel
theorem dL_areLegs_191 : decode cL_areLegs 191 = .ok (.iconst 1, 1) := by decide +kernel
theorem dL_areLegs_192 : decode cL_areLegs 192 = .ok (.goto 4, 3) := by decide +kernel
theorem dL_areLegs_195 : decode cL_areLegs 195 = .ok (.iconst 0, 1) := by decide +kernel
theorem dL_areLegs_196 : decode cL_areLegs 196 = .ok (.istore 6, 2) := by decide +kernel
theorem dL_areLegs_198 : decode cL_areLegs 198 = .ok (.iconst 0, 1) := by decide +kernel
theorem dL_areLegs_199 : decode cL_areLegs 199 = .ok (.istore 9, 2) := by decide +kernel
theorem dL_areLegs_201 : decode cL_areLegs 201 = .ok (.iload 9, 2) := by decide +kernel
theorem dL_areLegs_203 : decode cL_areLegs 203 = .ok (.iconst 3, 1) := by decide +kernel
theorem dL_areLegs_204 : decode cL_areLegs 204 = .ok (.if_icmp .ge 228, 3) := by decide +kernel
theorem dL_areLegs_207 : decode cL_areLegs 207 = .ok (.iload 6, 2) := by decide +kernel
theorem dL_areLegs_209 : decode cL_areLegs 209 = .ok (.ifCond .eq 223, 3) := by decide +kernel
theorem dL_areLegs_212 : decode cL_areLegs 212 = .ok (.aload_n 0, 1) := by decide +kernel
theorem dL_areLegs_213 : decode cL_areLegs 213 = .ok (.iload 9, 2) := by decide +kernel
theorem dL_areLegs_215 : decode cL_areLegs 215 = .ok (.invokevirtual 60, 3) := by decide +kernel
theorem dL_areLegs_218 : decode cL_areLegs 218 = .ok (.istore 10, 2) := by decide +kernel
theorem dL_areLegs_220 : decode cL_areLegs 220 = .ok (.aload_n 0, 1) := by decide +kernel
theorem dL_areLegs_221 : decode cL_areLegs 221 = .ok (.iconst 4, 1) := by decide +kernel
theorem dL_areLegs_222 : decode cL_areLegs 222 = .ok (.iload 9, 2) := by decide +kernel
theorem dL_areLegs_224 : decode cL_areLegs 224 = .ok (.iload 9, 2) := by decide +kernel
theorem dL_areLegs_226 : decode cL_areLegs 226 = .ok (.iconst 1, 1) := by decide +kernel
theorem dL_areLegs_227 : decode cL_areLegs 227 = .ok (.invokestatic 79, 3) := by decide +kernel
theorem dL_areLegs_230 : decode cL_areLegs 230 = .ok (.istore 11, 2) := by decide +kernel
theorem dL_areLegs_232 : decode cL_areLegs 232 = .ok (.aload 4, 2) := by decide +kernel
theorem dL_areLegs_234 : decode cL_areLegs 234 = .ok (.iload 9, 2) := by decide +kernel
theorem dL_areLegs_236 : decode cL_areLegs 236 = .ok (.iaload, 1) := by decide +kernel
theorem dL_areLegs_237 : decode cL_areLegs 237 = .ok (.aload_n 3, 1) := by decide +kernel
theorem dL_areLegs_238 : decode cL_areLegs 238 = .ok (.aload 4, 2) := by decide +kernel
theorem dL_areLegs_240 : decode cL_areLegs 240 = .ok (.iload 9, 2) := by decide +kernel
theorem dL_areLegs_242 : decode cL_areLegs 242 = .ok (.invokestatic 103, 3) := by decide +kernel
theorem dL_areLegs_245 : decode cL_areLegs 245 = .ok (.isub, 1) := by decide +kernel
theorem dL_areLegs_246 : decode cL_areLegs 246 = .ok (.istore 12, 2) := by decide +kernel
theorem dL_areLegs_248 : decode cL_areLegs 248 = .ok (.iconst 0, 1) := by decide +kernel
theorem dL_areLegs_249 : decode cL_areLegs 249 = .ok (.istore 13, 2) := by decide +kernel
theorem dL_areLegs_251 : decode cL_areLegs 251 = .ok (.iconst 0, 1) := by decide +kernel
theorem dL_areLegs_252 : decode cL_areLegs 252 = .ok (.istore 14, 2) := by decide +kernel
theorem dL_areLegs_254 : decode cL_areLegs 254 = .ok (.iload 14, 2) := by decide +kernel
theorem dL_areLegs_256 : decode cL_areLegs 256 = .ok (.aload 4, 2) := by decide +kernel
theorem dL_areLegs_258 : decode cL_areLegs 258 = .ok (.iconst 4, 1) := by decide +kernel
theorem dL_areLegs_259 : decode cL_areLegs 259 = .ok (.iaload, 1) := by decide +kernel
theorem dL_areLegs_260 : decode cL_areLegs 260 = .ok (.if_icmp .ge 65, 3) := by decide +kernel
theorem dL_areLegs_263 : decode cL_areLegs 263 = .ok (.aload_n 1, 1) := by decide +kernel
theorem dL_areLegs_264 : decode cL_areLegs 264 = .ok (.bipush 6, 2) := by decide +kernel
theorem dL_areLegs_266 : decode cL_areLegs 266 = .ok (.iload 14, 2) := by decide +kernel
theorem dL_areLegs_268 : decode cL_areLegs 268 = .ok (.imul, 1) := by decide +kernel
theorem dL_areLegs_269 : decode cL_areLegs 269 = .ok (.iaload, 1) := by decide +kernel
theorem dL_areLegs_270 : decode cL_areLegs 270 = .ok (.iload 9, 2) := by decide +kernel
theorem dL_areLegs_272 : decode cL_areLegs 272 = .ok (.if_icmp .gt 43, 3) := by decide +kernel
theorem dL_areLegs_275 : decode cL_areLegs 275 = .ok (.aload_n 1, 1) := by decide +kernel
theorem dL_areLegs_276 : decode cL_areLegs 276 = .ok (.bipush 6, 2) := by decide +kernel
theorem dL_areLegs_278 : decode cL_areLegs 278 = .ok (.iload 14, 2) := by decide +kernel
theorem dL_areLegs_280 : decode cL_areLegs 280 = .ok (.imul, 1) := by decide +kernel
theorem dL_areLegs_281 : decode cL_areLegs 281 = .ok (.iconst 1, 1) := by decide +kernel
theorem dL_areLegs_282 : decode cL_areLegs 282 = .ok (.iadd, 1) := by decide +kernel
theorem dL_areLegs_283 : decode cL_areLegs 283 = .ok (.iaload, 1) := by decide +kernel
theorem dL_areLegs_284 : decode cL_areLegs 284 = .ok (.iload 9, 2) := by decide +kernel
theorem dL_areLegs_286 : decode cL_areLegs 286 = .ok (.if_icmp .lt 29, 3) := by decide +kernel
theorem dL_areLegs_289 : decode cL_areLegs 289 = .ok (.aload_n 1, 1) := by decide +kernel
theorem dL_areLegs_290 : decode cL_areLegs 290 = .ok (.bipush 6, 2) := by decide +kernel
theorem dL_areLegs_292 : decode cL_areLegs 292 = .ok (.iload 14, 2) := by decide +kernel
theorem dL_areLegs_294 : decode cL_areLegs 294 = .ok (.imul, 1) := by decide +kernel
theorem dL_areLegs_295 : decode cL_areLegs 295 = .ok (.iconst 2, 1) := by decide +kernel
theorem dL_areLegs_296 : decode cL_areLegs 296 = .ok (.iadd, 1) := by decide +kernel
theorem dL_areLegs_297 : decode cL_areLegs 297 = .ok (.iaload, 1) := by decide +kernel
theorem dL_areLegs_298 : decode cL_areLegs 298 = .ok (.iload 13, 2) := by decide +kernel
theorem dL_areLegs_300 : decode cL_areLegs 300 = .ok (.if_icmp .le 15, 3) := by decide +kernel
theorem dL_areLegs_303 : decode cL_areLegs 303 = .ok (.aload_n 1, 1) := by decide +kernel
theorem dL_areLegs_304 : decode cL_areLegs 304 = .ok (.bipush 6, 2) := by decide +kernel
theorem dL_areLegs_306 : decode cL_areLegs 306 = .ok (.iload 14, 2) := by decide +kernel
theorem dL_areLegs_308 : decode cL_areLegs 308 = .ok (.imul, 1) := by decide +kernel
theorem dL_areLegs_309 : decode cL_areLegs 309 = .ok (.iconst 2, 1) := by decide +kernel
theorem dL_areLegs_310 : decode cL_areLegs 310 = .ok (.iadd, 1) := by decide +kernel
theorem dL_areLegs_311 : decode cL_areLegs 311 = .ok (.iaload, 1) := by decide +kernel
theorem dL_areLegs_312 : decode cL_areLegs 312 = .ok (.goto 5, 3) := by decide +kernel
theorem dL_areLegs_315 : decode cL_areLegs 315 = .ok (.iload 13, 2) := by decide +kernel
theorem dL_areLegs_317 : decode cL_areLegs 317 = .ok (.istore 13, 2) := by decide +kernel
theorem dL_areLegs_319 : decode cL_areLegs 319 = .ok (.iinc 14 1, 3) := by decide +kernel
theorem dL_areLegs_322 : decode cL_areLegs 322 = .ok (.goto (-68), 3) := by decide +kernel
theorem dL_areLegs_325 : decode cL_areLegs 325 = .ok (.aload_n 0, 1) := by decide +kernel
theorem dL_areLegs_326 : decode cL_areLegs 326 = .ok (.iload 9, 2) := by decide +kernel
theorem dL_areLegs_328 : decode cL_areLegs 328 = .ok (.invokevirtual 51, 3) := by decide +kernel
theorem dL_areLegs_331 : decode cL_areLegs 331 = .ok (.aload_n 3, 1) := by decide +kernel
theorem dL_areLegs_332 : decode cL_areLegs 332 = .ok (.aload 4, 2) := by decide +kernel
theorem dL_areLegs_334 : decode cL_areLegs 334 = .ok (.iload 9, 2) := by decide +kernel
theorem dL_areLegs_336 : decode cL_areLegs 336 = .ok (.invokestatic 103, 3) := by decide +kernel
theorem dL_areLegs_339 : decode cL_areLegs 339 = .ok (.if_icmp .ne 84, 3) := by decide +kernel
theorem dL_areLegs_342 : decode cL_areLegs 342 = .ok (.aload_n 0, 1) := by decide +kernel
theorem dL_areLegs_343 : decode cL_areLegs 343 = .ok (.iload 9, 2) := by decide +kernel
theorem dL_areLegs_345 : decode cL_areLegs 345 = .ok (.invokevirtual 54, 3) := by decide +kernel
theorem dL_areLegs_348 : decode cL_areLegs 348 = .ok (.aload 4, 2) := by decide +kernel
theorem dL_areLegs_350 : decode cL_areLegs 350 = .ok (.iload 9, 2) := by decide +kernel
theorem dL_areLegs_352 : decode cL_areLegs 352 = .ok (.invokestatic 106, 3) := by decide +kernel
theorem dL_areLegs_355 : decode cL_areLegs 355 = .ok (.if_icmp .ne 68, 3) := by decide +kernel
theorem dL_areLegs_358 : decode cL_areLegs 358 = .ok (.aload_n 0, 1) := by decide +kernel
theorem dL_areLegs_359 : decode cL_areLegs 359 = .ok (.iload 9, 2) := by decide +kernel
theorem dL_areLegs_361 : decode cL_areLegs 361 = .ok (.iload 5, 2) := by decide +kernel
theorem dL_areLegs_363 : decode cL_areLegs 363 = .ok (.invokevirtual 57, 3) := by decide +kernel
theorem dL_areLegs_366 : decode cL_areLegs 366 = .ok (.aload_n 1, 1) := by decide +kernel
theorem dL_areLegs_367 : decode cL_areLegs 367 = .ok (.aload_n 2, 1) := by decide +kernel
theorem dL_areLegs_368 : decode cL_areLegs 368 = .ok (.aload 4, 2) := by decide +kernel
theorem dL_areLegs_370 : decode cL_areLegs 370 = .ok (.iload 9, 2) := by decide +kernel
theorem dL_areLegs_372 : decode cL_areLegs 372 = .ok (.iload 5, 2) := by decide +kernel
theorem dL_areLegs_374 : decode cL_areLegs 374 = .ok (.invokestatic 109, 3) := by decide +kernel
theorem dL_areLegs_377 : decode cL_areLegs 377 = .ok (.if_icmp .ne 46, 3) := by decide +kernel
theorem dL_areLegs_380 : decode cL_areLegs 380 = .ok (.iload 10, 2) := by decide +kernel
theorem dL_areLegs_382 : decode cL_areLegs 382 = .ok (.ifCond .lt 41, 3) := by decide +kernel
theorem dL_areLegs_385 : decode cL_areLegs 385 = .ok (.iload 10, 2) := by decide +kernel
theorem dL_areLegs_387 : decode cL_areLegs 387 = .ok (.iload 13, 2) := by decide +kernel
theorem dL_areLegs_389 : decode cL_areLegs 389 = .ok (.if_icmp .gt 34, 3) := by decide +kernel
theorem dL_areLegs_392 : decode cL_areLegs 392 = .ok (.iload 12, 2) := by decide +kernel
theorem dL_areLegs_394 : decode cL_areLegs 394 = .ok (.iconst 1, 1) := by decide +kernel
theorem dL_areLegs_395 : decode cL_areLegs 395 = .ok (.if_icmp .ge 12, 3) := by decide +kernel
theorem dL_areLegs_398 : decode cL_areLegs 398 = .ok (.iload 11, 2) := by decide +kernel
theorem dL_areLegs_400 : decode cL_areLegs 400 = .ok (.iconst (-1), 1) := by decide +kernel
theorem dL_areLegs_401 : decode cL_areLegs 401 = .ok (.if_icmp .ne 22, 3) := by decide +kernel
theorem dL_areLegs_404 : decode cL_areLegs 404 = .ok (.goto 15, 3) := by decide +kernel
theorem dL_areLegs_407 : decode cL_areLegs 407 = .ok (.iload 11, 2) := by decide +kernel
theorem dL_areLegs_409 : decode cL_areLegs 409 = .ok (.ifCond .lt 14, 3) := by decide +kernel
theorem dL_areLegs_412 : decode cL_areLegs 412 = .ok (.iload 11, 2) := by decide +kernel
theorem dL_areLegs_414 : decode cL_areLegs 414 = .ok (.iload 8, 2) := by decide +kernel
theorem dL_areLegs_416 : decode cL_areLegs 416 = .ok (.if_icmp .gt 7, 3) := by decide +kernel
theorem dL_areLegs_419 : decode cL_areLegs 419 = .ok (.iconst 1, 1) := by decide +kernel
theorem dL_areLegs_420 : decode cL_areLegs 420 = .ok (.goto 4, 3) := by decide +kernel
theorem dL_areLegs_423 : decode cL_areLegs 423 = .ok (.iconst 0, 1) := by decide +kernel
theorem dL_areLegs_424 : decode cL_areLegs 424 = .ok (.istore 6, 2) := by decide +kernel
theorem dL_areLegs_426 : decode cL_areLegs 426 = .ok (.iinc 9 1, 3) := by decide +kernel
theorem dL_areLegs_429 : decode cL_areLegs 429 = .ok (.goto (-228), 3) := by decide +kernel
theorem dL_areLegs_432 : decode cL_areLegs 432 = .ok (.iload 6, 2) := by decide +kernel
theorem dL_areLegs_434 : decode cL_areLegs 434 = .ok (.ireturn, 1) := by decide +kernel
set_option maxRecDepth 20000 in
theorem ggL_areProducts_L_asks_wsL_asks_r1 : GoodIn wsL_areProducts wsL_asks_r1 := goodIn_r _ [5, 6, 7, 8, 9, 10, 11, 12, 13, 14, 15, 16, 17, 18, 19, 20, 21, 22, 23, 24, 25, 26, 27, 28] (by decide +kernel) (by decide +kernel)
set_option maxRecDepth 20000 in
theorem ggL_areProducts_L_asks_wsL_asks_r2 : GoodIn wsL_areProducts wsL_asks_r2 := goodIn_r _ [29, 30, 31, 32, 33, 34, 35, 36, 37, 38, 39, 40, 41, 42, 43, 44, 45, 46, 47, 48, 49, 50, 51, 52] (by decide +kernel) (by decide +kernel)
set_option maxRecDepth 20000 in
theorem ggL_areProducts_L_asks_wsL_asks_r3 : GoodIn wsL_areProducts wsL_asks_r3 := goodIn_r _ [53, 54, 55, 56, 57, 58, 59, 60, 61, 62, 63, 64, 65, 66, 67, 68, 69, 70, 71, 72, 73, 74, 75, 76] (by decide +kernel) (by decide +kernel)
set_option maxRecDepth 20000 in
theorem ggL_areProducts_L_asks_wsL_asks_r4 : GoodIn wsL_areProducts wsL_asks_r4 := goodIn_r _ [77, 78, 79, 80, 81, 82, 83, 84, 85, 86, 87, 88, 89, 90, 91, 92, 93, 94, 95, 96, 97, 98, 99, 100] (by decide +kernel) (by decide +kernel)
set_option maxRecDepth 20000 in
theorem ggL_areProducts_L_asks_wsL_asks_r5 : GoodIn wsL_areProducts wsL_asks_r5 := goodIn_r _ [101, 102, 103, 104, 105, 106, 107, 108, 109, 110, 111, 112, 113, 114, 115, 116, 117, 118, 119, 120, 121, 122, 123, 124] (by decide +kernel) (by decide +kernel)
set_option maxRecDepth 20000 in
theorem ggL_areProducts_L_asks_wsL_asks_r6 : GoodIn wsL_areProducts wsL_asks_r6 := goodIn_r _ [125, 126, 127, 128, 129, 130, 131, 132, 133, 134, 135, 136, 137, 138, 139, 140, 141, 142, 143, 144, 145, 146, 147, 148] (by decide +kernel) (by decide +kernel)
set_option maxRecDepth 20000 in
theorem ggL_areProducts_L_asks_wsL_asks_r7 : GoodIn wsL_areProducts wsL_asks_r7 := goodIn_r _ [149, 150, 151, 152, 153, 154, 155, 156, 157, 158, 159, 160, 161, 162, 163, 164, 165, 166, 167, 168, 169, 170, 171, 172] (by decide +kernel) (by decide +kernel)
set_option maxRecDepth 20000 in
theorem ggL_areProducts_L_asks_wsL_asks_r8 : GoodIn wsL_areProducts wsL_asks_r8 := goodIn_r _ [173, 174, 175, 176, 177, 178] (by decide +kernel) (by decide +kernel)
set_option maxRecDepth 20000 in
theorem ggL_areProducts_L_asks_wsX50 : GoodIn wsL_areProducts wsX50 := goodIn_r _ [179, 180, 181, 182, 183, 184, 185, 186, 187, 188, 189, 190, 191, 192] (by decide +kernel) (by decide +kernel)
set_option maxRecDepth 20000 in
theorem ggL_areProducts_L_asks_wsX00 : GoodIn wsL_areProducts wsX00 := goodIn_r _ [193, 194, 195, 196, 197] (by decide +kernel) (by decide +kernel)
set_option maxRecDepth 20000 in
theorem ggL_areProducts_L_asks_wsX20 : GoodIn wsL_areProducts wsX20 := goodIn_r _ [198, 199, 200, 201, 202, 203, 204] (by decide +kernel) (by decide +kernel)
set_option maxRecDepth 20000 in
theorem ggL_areProducts_L_asks_wsX10 : GoodIn wsL_areProducts wsX10 := goodIn_r _ [205, 206, 207, 208, 209, 210] (by decide +kernel) (by decide +kernel)
set_option maxRecDepth 20000 in
theorem ggL_areProducts_L_asks_wsX30 : GoodIn wsL_areProducts wsX30 := goodIn_r _ [211, 212] (by decide +kernel) (by decide +kernel)
set_option maxRecDepth 100000 in
theorem ggL_areProducts_L_asks_code : GoodIn wsL_areProducts [Cond.codeWith yL_asks cL_asks 6 (some .int) [(0, 124, 125, 45), (0, 124, 130, 47)]] := goodIn_sub (fun w hw => by rw [List.mem_singleton.mp hw]; exact List.mem_of_getElem? (i := 4) (by rfl)) (by rfl)
set_option maxRecDepth 20000 in
theorem ggL_areProducts_L_asks : GoodIn wsL_areProducts wsL_asks := goodIn_ca (goodIn_ca (goodIn_app ggL_areProducts_L_asks_code (goodIn_app (goodIn_app (goodIn_app (goodIn_app (goodIn_app (goodIn_app ggL_areProducts_L_asks_wsL_asks_r1 (goodIn_app ggL_areProducts_L_asks_wsL_asks_r2 (goodIn_app ggL_areProducts_L_asks_wsL_asks_r3 (goodIn_app ggL_areProducts_L_asks_wsL_asks_r4 (goodIn_app ggL_areProducts_L_asks_wsL_asks_r5 (goodIn_app ggL_areProducts_L_asks_wsL_asks_r6 (goodIn_app ggL_areProducts_L_asks_wsL_asks_r7 ggL_areProducts_L_asks_wsL_asks_r8))))))) ggL_areProducts_L_asks_wsX50) ggL_areProducts_L_asks_wsX00) ggL_areProducts_L_asks_wsX20) ggL_areProducts_L_asks_wsX10) ggL_areProducts_L_asks_wsX30)) (goodIn_sub (fun _ h => List.mem_cons_of_mem _ (List.mem_append_left _ (List.mem_append_right _ h))) (by decide +kernel))) (goodIn_sub (fun _ h => List.mem_cons_of_mem _ (List.mem_append_right _ h)) (by decide +kernel))
set_option maxRecDepth 20000 in
theorem gL_areProducts_L_asks : GoodIn wsL_areProducts (va_wsS RL 79 yL_asks wsL_asks) := goodIn_app (goodIn_of _ (by decide +kernel)) ggL_areProducts_L_asks
set_option maxRecDepth 20000 in
theorem ggL_areProducts_X5_expected : GoodIn wsL_areProducts wsX5_expected := goodIn_ca (goodIn_r _ [159, 12, 13, 160, 161, 162, 10, 163, 62, 198, 199, 200, 201, 202, 203, 204, 179, 180, 181, 182, 183, 184, 185, 186, 187, 188, 189, 190, 191, 192] (by decide +kernel) (by decide +kernel)) (goodIn_sub (fun _ h => List.mem_cons_of_mem _ (List.mem_append_left _ (List.mem_append_right _ h))) (by decide +kernel))
set_option maxRecDepth 20000 in
theorem gL_areProducts_X5_expected : GoodIn wsL_areProducts (wsV RL 66 RX5 yX5_expected wsX5_expected) := goodIn_app (goodIn_of _ (by decide +kernel)) ggL_areProducts_X5_expected
set_option maxRecDepth 20000 in
theorem ggL_areProducts_X5_asked : GoodIn wsL_areProducts wsX5_asked := goodIn_ca (goodIn_r _ [167, 12, 13, 160, 161, 162, 10, 163, 62, 198, 199, 200, 201, 202, 203, 204, 179, 180, 181, 182, 183, 184, 185, 186, 187, 188, 189, 190, 191, 192] (by decide +kernel) (by decide +kernel)) (goodIn_sub (fun _ h => List.mem_cons_of_mem _ (List.mem_append_left _ (List.mem_append_right _ h))) (by decide +kernel))
set_option maxRecDepth 20000 in
theorem gL_areProducts_X5_asked : GoodIn wsL_areProducts (wsV RL 69 RX5 yX5_asked wsX5_asked) := goodIn_app (goodIn_of _ (by decide +kernel)) ggL_areProducts_X5_asked
set_option maxRecDepth 20000 in
theorem ggL_areProducts_X5_average : GoodIn wsL_areProducts wsX5_average := goodIn_ca (goodIn_r _ [178, 12, 13, 63, 160, 161, 162, 10, 163, 62, 179, 180, 181, 182, 183, 184, 185, 186, 187, 188, 189, 190, 191, 192, 198, 199, 200, 201, 202, 203, 204] (by decide +kernel) (by decide +kernel)) (goodIn_sub (fun _ h => List.mem_cons_of_mem _ (List.mem_append_left _ (List.mem_append_right _ h))) (by decide +kernel))
set_option maxRecDepth 20000 in
theorem gL_areProducts_X5_average : GoodIn wsL_areProducts (wsV RL 75 RX5 yX5_average wsX5_average) := goodIn_app (goodIn_of _ (by decide +kernel)) ggL_areProducts_X5_average
set_option maxRecDepth 20000 in
theorem ggL_areProducts_X5_refused : GoodIn wsL_areProducts wsX5_refused := goodIn_ca (goodIn_r _ [171, 56, 57, 172, 173, 174, 179, 180, 181, 182, 183, 184, 185, 186, 187, 188, 189, 190, 191, 192] (by decide +kernel) (by decide +kernel)) (goodIn_sub (fun _ h => List.mem_cons_of_mem _ (List.mem_append_right _ h)) (by decide +kernel))
set_option maxRecDepth 20000 in
theorem gL_areProducts_X5_refused : GoodIn wsL_areProducts (wsV RL 72 RX5 yX5_refused wsX5_refused) := goodIn_app (goodIn_of _ (by decide +kernel)) ggL_areProducts_X5_refused
theorem dL_areProducts_0 : decode cL_areProducts 0 = .ok (.aload_n 0, 1) := by decide +kernel
theorem dL_areProducts_1 : decode cL_areProducts 1 = .ok (.iconst 5, 1) := by decide +kernel
theorem dL_areProducts_2 : decode cL_areProducts 2 = .ok (.aload_n 2, 1) := by decide +kernel
theorem dL_areProducts_3 : decode cL_areProducts 3 = .ok (.iconst 4, 1) := by decide +kernel
theorem dL_areProducts_4 : decode cL_areProducts 4 = .ok (.iaload, 1) := by decide +kernel
theorem dL_areProducts_5 : decode cL_areProducts 5 = .ok (.iconst 0, 1) := by decide +kernel
theorem dL_areProducts_6 : decode cL_areProducts 6 = .ok (.iconst 0, 1) := by decide +kernel
theorem dL_areProducts_7 : decode cL_areProducts 7 = .ok (.invokestatic 79, 3) := by decide +kernel
theorem dL_areProducts_10 : decode cL_areProducts 10 = .ok (.bipush (-30), 2) := by decide +kernel
theorem dL_areProducts_12 : decode cL_areProducts 12 = .ok (.if_icmp .ne 66, 3) := by decide +kernel
theorem dL_areProducts_15 : decode cL_areProducts 15 = .ok (.aload_n 0, 1) := by decide +kernel
theorem dL_areProducts_16 : decode cL_areProducts 16 = .ok (.bipush 6, 2) := by decide +kernel
theorem dL_areProducts_18 : decode cL_areProducts 18 = .ok (.iconst (-1), 1) := by decide +kernel
theorem dL_areProducts_19 : decode cL_areProducts 19 = .ok (.iconst 0, 1) := by decide +kernel
theorem dL_areProducts_20 : decode cL_areProducts 20 = .ok (.iconst 0, 1) := by decide +kernel
theorem dL_areProducts_21 : decode cL_areProducts 21 = .ok (.invokestatic 79, 3) := by decide +kernel
theorem dL_areProducts_24 : decode cL_areProducts 24 = .ok (.bipush (-30), 2) := by decide +kernel
theorem dL_areProducts_26 : decode cL_areProducts 26 = .ok (.if_icmp .ne 52, 3) := by decide +kernel
theorem dL_areProducts_29 : decode cL_areProducts 29 = .ok (.aload_n 0, 1) := by decide +kernel
theorem dL_areProducts_30 : decode cL_areProducts 30 = .ok (.bipush 8, 2) := by decide +kernel
theorem dL_areProducts_32 : decode cL_areProducts 32 = .ok (.aload_n 2, 1) := by decide +kernel
theorem dL_areProducts_33 : decode cL_areProducts 33 = .ok (.iconst 4, 1) := by decide +kernel
theorem dL_areProducts_34 : decode cL_areProducts 34 = .ok (.iaload, 1) := by decide +kernel
theorem dL_areProducts_35 : decode cL_areProducts 35 = .ok (.iconst 0, 1) := by decide +kernel
theorem dL_areProducts_36 : decode cL_areProducts 36 = .ok (.iconst 0, 1) := by decide +kernel
theorem dL_areProducts_37 : decode cL_areProducts 37 = .ok (.invokestatic 79, 3) := by decide +kernel
theorem dL_areProducts_40 : decode cL_areProducts 40 = .ok (.bipush (-30), 2) := by decide +kernel
theorem dL_areProducts_42 : decode cL_areProducts 42 = .ok (.if_icmp .ne 36, 3) := by decide +kernel
theorem dL_areProducts_45 : decode cL_areProducts 45 = .ok (.aload_n 0, 1) := by decide +kernel
theorem dL_areProducts_46 : decode cL_areProducts 46 = .ok (.bipush 7, 2) := by decide +kernel
theorem dL_areProducts_48 : decode cL_areProducts 48 = .ok (.iconst 0, 1) := by decide +kernel
theorem dL_areProducts_49 : decode cL_areProducts 49 = .ok (.iconst 0, 1) := by decide +kernel
theorem dL_areProducts_50 : decode cL_areProducts 50 = .ok (.iconst 0, 1) := by decide +kernel
theorem dL_areProducts_51 : decode cL_areProducts 51 = .ok (.invokestatic 79, 3) := by decide +kernel
theorem dL_areProducts_54 : decode cL_areProducts 54 = .ok (.bipush (-20), 2) := by decide +kernel
theorem dL_areProducts_56 : decode cL_areProducts 56 = .ok (.if_icmp .ne 22, 3) := by decide +kernel
theorem dL_areProducts_59 : decode cL_areProducts 59 = .ok (.aload_n 0, 1) := by decide +kernel
theorem dL_areProducts_60 : decode cL_areProducts 60 = .ok (.bipush 7, 2) := by decide +kernel
theorem dL_areProducts_62 : decode cL_areProducts 62 = .ok (.bipush (-4), 2) := by decide +kernel
theorem dL_areProducts_64 : decode cL_areProducts 64 = .ok (.iconst 0, 1) := by decide +kernel
theorem dL_areProducts_65 : decode cL_areProducts 65 = .ok (.iconst 0, 1) := by decide +kernel
theorem dL_areProducts_66 : decode cL_areProducts 66 = .ok (.invokestatic 79, 3) := by decide +kernel
theorem dL_areProducts_69 : decode cL_areProducts 69 = .ok (.bipush (-20), 2) := by decide +kernel
theorem dL_areProducts_71 : decode cL_areProducts 71 = .ok (.if_icmp .ne 7, 3) := by decide +kernel
theorem dL_areProducts_74 : decode cL_areProducts 74 = .ok (.iconst 1, 1) := by decide +kernel
theorem dL_areProducts_75 : decode cL_areProducts 75 = .ok (.goto 4, 3) := by decide +kernel
theorem dL_areProducts_78 : decode cL_areProducts 78 = .ok (.iconst 0, 1) := by decide +kernel
theorem dL_areProducts_79 : decode cL_areProducts 79 = .ok (.istore_n 3, 1) := by decide +kernel
theorem dL_areProducts_80 : decode cL_areProducts 80 = .ok (.iconst 0, 1) := by decide +kernel
theorem dL_areProducts_81 : decode cL_areProducts 81 = .ok (.istore 4, 2) := by decide +kernel
theorem dL_areProducts_83 : decode cL_areProducts 83 = .ok (.iload 4, 2) := by decide +kernel
theorem dL_areProducts_85 : decode cL_areProducts 85 = .ok (.aload_n 2, 1) := by decide +kernel
theorem dL_areProducts_86 : decode cL_areProducts 86 = .ok (.iconst 4, 1) := by decide +kernel
theorem dL_areProducts_87 : decode cL_areProducts 87 = .ok (.iaload, 1) := by decide +kernel
theorem dL_areProducts_88 : decode cL_areProducts 88 = .ok (.if_icmp .ge 94, 3) := by decide +kernel
theorem dL_areProducts_91 : decode cL_areProducts 91 = .ok (.iload_n 3, 1) := by decide +kernel
theorem dL_areProducts_92 : decode cL_areProducts 92 = .ok (.ifCond .eq 90, 3) := by decide +kernel
theorem dL_areProducts_95 : decode cL_areProducts 95 = .ok (.aload_n 2, 1) := by decide +kernel
theorem dL_areProducts_96 : decode cL_areProducts 96 = .ok (.iconst 5, 1) := by decide +kernel
theorem dL_areProducts_97 : decode cL_areProducts 97 = .ok (.iaload, 1) := by decide +kernel
theorem dL_areProducts_98 : decode cL_areProducts 98 = .ok (.ifCond .ne 7, 3) := by decide +kernel
theorem dL_areProducts_101 : decode cL_areProducts 101 = .ok (.fconst 0, 1) := by decide +kernel
theorem dL_areProducts_102 : decode cL_areProducts 102 = .ok (.goto 18, 3) := by decide +kernel
theorem dL_areProducts_105 : decode cL_areProducts 105 = .ok (.aload_n 1, 1) := by decide +kernel
theorem dL_areProducts_106 : decode cL_areProducts 106 = .ok (.bipush 6, 2) := by decide +kernel
theorem dL_areProducts_108 : decode cL_areProducts 108 = .ok (.iload 4, 2) := by decide +kernel
theorem dL_areProducts_110 : decode cL_areProducts 110 = .ok (.imul, 1) := by decide +kernel
theorem dL_areProducts_111 : decode cL_areProducts 111 = .ok (.iconst 5, 1) := by decide +kernel
