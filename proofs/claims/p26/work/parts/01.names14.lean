theorem dL_isDone_0 : decode cL_isDone 0 = .ok (.aload_n 1, 1) := by decide +kernel
theorem dL_isDone_1 : decode cL_isDone 1 = .ok (.iload_n 2, 1) := by decide +kernel
theorem dL_isDone_2 : decode cL_isDone 2 = .ok (.bipush 40, 2) := by decide +kernel
theorem dL_isDone_4 : decode cL_isDone 4 = .ok (.invokestatic 121, 3) := by decide +kernel
theorem dL_isDone_7 : decode cL_isDone 7 = .ok (.istore 7, 2) := by decide +kernel
theorem dL_isDone_9 : decode cL_isDone 9 = .ok (.aload_n 1, 1) := by decide +kernel
theorem dL_isDone_10 : decode cL_isDone 10 = .ok (.iload_n 2, 1) := by decide +kernel
theorem dL_isDone_11 : decode cL_isDone 11 = .ok (.iconst 1, 1) := by decide +kernel
theorem dL_isDone_12 : decode cL_isDone 12 = .ok (.iadd, 1) := by decide +kernel
theorem dL_isDone_13 : decode cL_isDone 13 = .ok (.sipush 6000, 3) := by decide +kernel
theorem dL_isDone_16 : decode cL_isDone 16 = .ok (.invokestatic 121, 3) := by decide +kernel
theorem dL_isDone_19 : decode cL_isDone 19 = .ok (.istore 8, 2) := by decide +kernel
theorem dL_isDone_21 : decode cL_isDone 21 = .ok (.aload_n 1, 1) := by decide +kernel
theorem dL_isDone_22 : decode cL_isDone 22 = .ok (.iload_n 2, 1) := by decide +kernel
theorem dL_isDone_23 : decode cL_isDone 23 = .ok (.iconst 2, 1) := by decide +kernel
theorem dL_isDone_24 : decode cL_isDone 24 = .ok (.iadd, 1) := by decide +kernel
theorem dL_isDone_25 : decode cL_isDone 25 = .ok (.sipush 7000, 3) := by decide +kernel
theorem dL_isDone_28 : decode cL_isDone 28 = .ok (.invokestatic 121, 3) := by decide +kernel
theorem dL_isDone_31 : decode cL_isDone 31 = .ok (.istore 9, 2) := by decide +kernel
theorem dL_isDone_33 : decode cL_isDone 33 = .ok (.aload_n 1, 1) := by decide +kernel
theorem dL_isDone_34 : decode cL_isDone 34 = .ok (.iload_n 2, 1) := by decide +kernel
theorem dL_isDone_35 : decode cL_isDone 35 = .ok (.iconst 3, 1) := by decide +kernel
theorem dL_isDone_36 : decode cL_isDone 36 = .ok (.iadd, 1) := by decide +kernel
theorem dL_isDone_37 : decode cL_isDone 37 = .ok (.sipush 8000, 3) := by decide +kernel
theorem dL_isDone_40 : decode cL_isDone 40 = .ok (.invokestatic 121, 3) := by decide +kernel
theorem dL_isDone_43 : decode cL_isDone 43 = .ok (.istore 10, 2) := by decide +kernel
theorem dL_isDone_45 : decode cL_isDone 45 = .ok (.iload 7, 2) := by decide +kernel
theorem dL_isDone_47 : decode cL_isDone 47 = .ok (.iconst 3, 1) := by decide +kernel
theorem dL_isDone_48 : decode cL_isDone 48 = .ok (.if_icmp .ge 135, 3) := by decide +kernel
theorem dL_isDone_51 : decode cL_isDone 51 = .ok (.iload 10, 2) := by decide +kernel
theorem dL_isDone_53 : decode cL_isDone 53 = .ok (.bipush 25, 2) := by decide +kernel
theorem dL_isDone_55 : decode cL_isDone 55 = .ok (.irem, 1) := by decide +kernel
theorem dL_isDone_56 : decode cL_isDone 56 = .ok (.ifCond .ne 8, 3) := by decide +kernel
theorem dL_isDone_59 : decode cL_isDone 59 = .ok (.bipush 11, 2) := by decide +kernel
theorem dL_isDone_61 : decode cL_isDone 61 = .ok (.goto 8, 3) := by decide +kernel
theorem dL_isDone_64 : decode cL_isDone 64 = .ok (.iload 10, 2) := by decide +kernel
theorem dL_isDone_66 : decode cL_isDone 66 = .ok (.bipush 7, 2) := by decide +kernel
theorem dL_isDone_68 : decode cL_isDone 68 = .ok (.irem, 1) := by decide +kernel
theorem dL_isDone_69 : decode cL_isDone 69 = .ok (.istore 11, 2) := by decide +kernel
theorem dL_isDone_71 : decode cL_isDone 71 = .ok (.iload 11, 2) := by decide +kernel
theorem dL_isDone_73 : decode cL_isDone 73 = .ok (.bipush 11, 2) := by decide +kernel
theorem dL_isDone_75 : decode cL_isDone 75 = .ok (.if_icmp .ge 7, 3) := by decide +kernel
theorem dL_isDone_78 : decode cL_isDone 78 = .ok (.iconst 1, 1) := by decide +kernel
theorem dL_isDone_79 : decode cL_isDone 79 = .ok (.goto 4, 3) := by decide +kernel
theorem dL_isDone_82 : decode cL_isDone 82 = .ok (.iconst 0, 1) := by decide +kernel
theorem dL_isDone_83 : decode cL_isDone 83 = .ok (.istore 12, 2) := by decide +kernel
theorem dL_isDone_85 : decode cL_isDone 85 = .ok (.aload 6, 2) := by decide +kernel
theorem dL_isDone_87 : decode cL_isDone 87 = .ok (.iconst 0, 1) := by decide +kernel
theorem dL_isDone_88 : decode cL_isDone 88 = .ok (.iload 12, 2) := by decide +kernel
theorem dL_isDone_90 : decode cL_isDone 90 = .ok (.ifCond .eq 11, 3) := by decide +kernel
theorem dL_isDone_93 : decode cL_isDone 93 = .ok (.iload 8, 2) := by decide +kernel
theorem dL_isDone_95 : decode cL_isDone 95 = .ok (.bipush 7, 2) := by decide +kernel
theorem dL_isDone_97 : decode cL_isDone 97 = .ok (.irem, 1) := by decide +kernel
theorem dL_isDone_98 : decode cL_isDone 98 = .ok (.goto 7, 3) := by decide +kernel
theorem dL_isDone_101 : decode cL_isDone 101 = .ok (.aload 6, 2) := by decide +kernel
theorem dL_isDone_103 : decode cL_isDone 103 = .ok (.iconst 0, 1) := by decide +kernel
theorem dL_isDone_104 : decode cL_isDone 104 = .ok (.iaload, 1) := by decide +kernel
theorem dL_isDone_105 : decode cL_isDone 105 = .ok (.iastore, 1) := by decide +kernel
theorem dL_isDone_106 : decode cL_isDone 106 = .ok (.aload 6, 2) := by decide +kernel
theorem dL_isDone_108 : decode cL_isDone 108 = .ok (.iconst 1, 1) := by decide +kernel
theorem dL_isDone_109 : decode cL_isDone 109 = .ok (.iload 12, 2) := by decide +kernel
theorem dL_isDone_111 : decode cL_isDone 111 = .ok (.ifCond .eq 11, 3) := by decide +kernel
theorem dL_isDone_114 : decode cL_isDone 114 = .ok (.iload 9, 2) := by decide +kernel
theorem dL_isDone_116 : decode cL_isDone 116 = .ok (.bipush 8, 2) := by decide +kernel
theorem dL_isDone_118 : decode cL_isDone 118 = .ok (.irem, 1) := by decide +kernel
theorem dL_isDone_119 : decode cL_isDone 119 = .ok (.goto 7, 3) := by decide +kernel
theorem dL_isDone_122 : decode cL_isDone 122 = .ok (.aload 6, 2) := by decide +kernel
theorem dL_isDone_124 : decode cL_isDone 124 = .ok (.iconst 1, 1) := by decide +kernel
theorem dL_isDone_125 : decode cL_isDone 125 = .ok (.iaload, 1) := by decide +kernel
theorem dL_isDone_126 : decode cL_isDone 126 = .ok (.iastore, 1) := by decide +kernel
theorem dL_isDone_127 : decode cL_isDone 127 = .ok (.aload 6, 2) := by decide +kernel
theorem dL_isDone_129 : decode cL_isDone 129 = .ok (.iconst 2, 1) := by decide +kernel
theorem dL_isDone_130 : decode cL_isDone 130 = .ok (.iload 12, 2) := by decide +kernel
theorem dL_isDone_132 : decode cL_isDone 132 = .ok (.ifCond .eq 8, 3) := by decide +kernel
theorem dL_isDone_135 : decode cL_isDone 135 = .ok (.iload 11, 2) := by decide +kernel
theorem dL_isDone_137 : decode cL_isDone 137 = .ok (.goto 7, 3) := by decide +kernel
theorem dL_isDone_140 : decode cL_isDone 140 = .ok (.aload 6, 2) := by decide +kernel
theorem dL_isDone_142 : decode cL_isDone 142 = .ok (.iconst 2, 1) := by decide +kernel
theorem dL_isDone_143 : decode cL_isDone 143 = .ok (.iaload, 1) := by decide +kernel
theorem dL_isDone_144 : decode cL_isDone 144 = .ok (.iastore, 1) := by decide +kernel
theorem dL_isDone_145 : decode cL_isDone 145 = .ok (.aload_n 0, 1) := by decide +kernel
theorem dL_isDone_146 : decode cL_isDone 146 = .ok (.iconst 0, 1) := by decide +kernel
theorem dL_isDone_147 : decode cL_isDone 147 = .ok (.iload 8, 2) := by decide +kernel
theorem dL_isDone_149 : decode cL_isDone 149 = .ok (.bipush 7, 2) := by decide +kernel
theorem dL_isDone_151 : decode cL_isDone 151 = .ok (.irem, 1) := by decide +kernel
theorem dL_isDone_152 : decode cL_isDone 152 = .ok (.iload 9, 2) := by decide +kernel
theorem dL_isDone_154 : decode cL_isDone 154 = .ok (.bipush 8, 2) := by decide +kernel
theorem dL_isDone_156 : decode cL_isDone 156 = .ok (.irem, 1) := by decide +kernel
theorem dL_isDone_157 : decode cL_isDone 157 = .ok (.iload 11, 2) := by decide +kernel
theorem dL_isDone_159 : decode cL_isDone 159 = .ok (.iconst 0, 1) := by decide +kernel
theorem dL_isDone_160 : decode cL_isDone 160 = .ok (.invokestatic 113, 3) := by decide +kernel
theorem dL_isDone_163 : decode cL_isDone 163 = .ok (.iload 12, 2) := by decide +kernel
theorem dL_isDone_165 : decode cL_isDone 165 = .ok (.ifCond .eq 7, 3) := by decide +kernel
theorem dL_isDone_168 : decode cL_isDone 168 = .ok (.iconst 0, 1) := by decide +kernel
theorem dL_isDone_169 : decode cL_isDone 169 = .ok (.goto 5, 3) := by decide +kernel
theorem dL_isDone_172 : decode cL_isDone 172 = .ok (.bipush (-20), 2) := by decide +kernel
theorem dL_isDone_174 : decode cL_isDone 174 = .ok (.if_icmp .ne 7, 3) := by decide +kernel
theorem dL_isDone_177 : decode cL_isDone 177 = .ok (.iconst 1, 1) := by decide +kernel
theorem dL_isDone_178 : decode cL_isDone 178 = .ok (.goto 4, 3) := by decide +kernel
theorem dL_isDone_181 : decode cL_isDone 181 = .ok (.iconst 0, 1) := by decide +kernel
theorem dL_isDone_182 : decode cL_isDone 182 = .ok (.ireturn, 1) := by decide +kernel
theorem dL_isDone_183 : decode cL_isDone 183 = .ok (.iload 7, 2) := by decide +kernel
theorem dL_isDone_185 : decode cL_isDone 185 = .ok (.bipush 10, 2) := by decide +kernel
theorem dL_isDone_187 : decode cL_isDone 187 = .ok (.if_icmp .ge 19, 3) := by decide +kernel
theorem dL_isDone_190 : decode cL_isDone 190 = .ok (.aload_n 0, 1) := by decide +kernel
theorem dL_isDone_191 : decode cL_isDone 191 = .ok (.aload_n 3, 1) := by decide +kernel
theorem dL_isDone_192 : decode cL_isDone 192 = .ok (.aload 4, 2) := by decide +kernel
theorem dL_isDone_194 : decode cL_isDone 194 = .ok (.aload 6, 2) := by decide +kernel
theorem dL_isDone_196 : decode cL_isDone 196 = .ok (.iload 8, 2) := by decide +kernel
theorem dL_isDone_198 : decode cL_isDone 198 = .ok (.iload 9, 2) := by decide +kernel
theorem dL_isDone_200 : decode cL_isDone 200 = .ok (.iload 10, 2) := by decide +kernel
theorem dL_isDone_202 : decode cL_isDone 202 = .ok (.invokestatic 125, 3) := by decide +kernel
theorem dL_isDone_205 : decode cL_isDone 205 = .ok (.ireturn, 1) := by decide +kernel
theorem dL_isDone_206 : decode cL_isDone 206 = .ok (.iload 7, 2) := by decide +kernel
theorem dL_isDone_208 : decode cL_isDone 208 = .ok (.bipush 14, 2) := by decide +kernel
theorem dL_isDone_210 : decode cL_isDone 210 = .ok (.if_icmp .ge 109, 3) := by decide +kernel
theorem dL_isDone_213 : decode cL_isDone 213 = .ok (.iload 8, 2) := by decide +kernel
theorem dL_isDone_215 : decode cL_isDone 215 = .ok (.aload 6, 2) := by decide +kernel
theorem dL_isDone_217 : decode cL_isDone 217 = .ok (.iconst 4, 1) := by decide +kernel
theorem dL_isDone_218 : decode cL_isDone 218 = .ok (.iaload, 1) := by decide +kernel
theorem dL_isDone_219 : decode cL_isDone 219 = .ok (.iconst 1, 1) := by decide +kernel
theorem dL_isDone_220 : decode cL_isDone 220 = .ok (.iadd, 1) := by decide +kernel
theorem dL_isDone_221 : decode cL_isDone 221 = .ok (.irem, 1) := by decide +kernel
theorem dL_isDone_222 : decode cL_isDone 222 = .ok (.istore 11, 2) := by decide +kernel
theorem dL_isDone_224 : decode cL_isDone 224 = .ok (.iload 9, 2) := by decide +kernel
theorem dL_isDone_226 : decode cL_isDone 226 = .ok (.bipush 30, 2) := by decide +kernel
theorem dL_isDone_228 : decode cL_isDone 228 = .ok (.irem, 1) := by decide +kernel
theorem dL_isDone_229 : decode cL_isDone 229 = .ok (.ifCond .ne 8, 3) := by decide +kernel
theorem dL_isDone_232 : decode cL_isDone 232 = .ok (.bipush 21, 2) := by decide +kernel
theorem dL_isDone_234 : decode cL_isDone 234 = .ok (.goto 8, 3) := by decide +kernel
theorem dL_isDone_237 : decode cL_isDone 237 = .ok (.iload 9, 2) := by decide +kernel
theorem dL_isDone_239 : decode cL_isDone 239 = .ok (.bipush 8, 2) := by decide +kernel
theorem dL_isDone_241 : decode cL_isDone 241 = .ok (.irem, 1) := by decide +kernel
theorem dL_isDone_242 : decode cL_isDone 242 = .ok (.istore 12, 2) := by decide +kernel
theorem dL_isDone_244 : decode cL_isDone 244 = .ok (.iload 11, 2) := by decide +kernel
theorem dL_isDone_246 : decode cL_isDone 246 = .ok (.aload 6, 2) := by decide +kernel
theorem dL_isDone_248 : decode cL_isDone 248 = .ok (.iconst 4, 1) := by decide +kernel
theorem dL_isDone_249 : decode cL_isDone 249 = .ok (.iaload, 1) := by decide +kernel
theorem dL_isDone_250 : decode cL_isDone 250 = .ok (.if_icmp .ne 8, 3) := by decide +kernel
theorem dL_isDone_253 : decode cL_isDone 253 = .ok (.bipush (-30), 2) := by decide +kernel
theorem dL_isDone_255 : decode cL_isDone 255 = .ok (.goto 24, 3) := by decide +kernel
theorem dL_isDone_258 : decode cL_isDone 258 = .ok (.iload 12, 2) := by decide +kernel
theorem dL_isDone_260 : decode cL_isDone 260 = .ok (.bipush 20, 2) := by decide +kernel
theorem dL_isDone_262 : decode cL_isDone 262 = .ok (.if_icmp .le 8, 3) := by decide +kernel
theorem dL_isDone_265 : decode cL_isDone 265 = .ok (.bipush (-20), 2) := by decide +kernel
theorem dL_isDone_267 : decode cL_isDone 267 = .ok (.goto 12, 3) := by decide +kernel
theorem dL_isDone_270 : decode cL_isDone 270 = .ok (.aload_n 3, 1) := by decide +kernel
theorem dL_isDone_271 : decode cL_isDone 271 = .ok (.bipush 6, 2) := by decide +kernel
theorem dL_isDone_273 : decode cL_isDone 273 = .ok (.iload 11, 2) := by decide +kernel
theorem dL_isDone_275 : decode cL_isDone 275 = .ok (.imul, 1) := by decide +kernel
theorem dL_isDone_276 : decode cL_isDone 276 = .ok (.iconst 3, 1) := by decide +kernel
theorem dL_isDone_277 : decode cL_isDone 277 = .ok (.iadd, 1) := by decide +kernel
theorem dL_isDone_278 : decode cL_isDone 278 = .ok (.iaload, 1) := by decide +kernel
theorem dL_isDone_279 : decode cL_isDone 279 = .ok (.istore 13, 2) := by decide +kernel
theorem dL_isDone_281 : decode cL_isDone 281 = .ok (.iload 13, 2) := by decide +kernel
theorem dL_isDone_283 : decode cL_isDone 283 = .ok (.ifCond .lt 14, 3) := by decide +kernel
theorem dL_isDone_286 : decode cL_isDone 286 = .ok (.aload_n 3, 1) := by decide +kernel
theorem dL_isDone_287 : decode cL_isDone 287 = .ok (.bipush 6, 2) := by decide +kernel
theorem dL_isDone_289 : decode cL_isDone 289 = .ok (.iload 11, 2) := by decide +kernel
theorem dL_isDone_291 : decode cL_isDone 291 = .ok (.imul, 1) := by decide +kernel
theorem dL_isDone_292 : decode cL_isDone 292 = .ok (.iconst 3, 1) := by decide +kernel
theorem dL_isDone_293 : decode cL_isDone 293 = .ok (.iadd, 1) := by decide +kernel
theorem dL_isDone_294 : decode cL_isDone 294 = .ok (.iload 12, 2) := by decide +kernel
theorem dL_isDone_296 : decode cL_isDone 296 = .ok (.iastore, 1) := by decide +kernel
theorem dL_isDone_297 : decode cL_isDone 297 = .ok (.aload_n 0, 1) := by decide +kernel
theorem dL_isDone_298 : decode cL_isDone 298 = .ok (.iconst 2, 1) := by decide +kernel
theorem dL_isDone_299 : decode cL_isDone 299 = .ok (.iload 11, 2) := by decide +kernel
theorem dL_isDone_301 : decode cL_isDone 301 = .ok (.iload 12, 2) := by decide +kernel
theorem dL_isDone_303 : decode cL_isDone 303 = .ok (.iconst 0, 1) := by decide +kernel
theorem dL_isDone_304 : decode cL_isDone 304 = .ok (.iconst 0, 1) := by decide +kernel
theorem dL_isDone_305 : decode cL_isDone 305 = .ok (.invokestatic 113, 3) := by decide +kernel
theorem dL_isDone_308 : decode cL_isDone 308 = .ok (.iload 13, 2) := by decide +kernel
theorem dL_isDone_310 : decode cL_isDone 310 = .ok (.if_icmp .ne 7, 3) := by decide +kernel
theorem dL_isDone_313 : decode cL_isDone 313 = .ok (.iconst 1, 1) := by decide +kernel
theorem dL_isDone_314 : decode cL_isDone 314 = .ok (.goto 4, 3) := by decide +kernel
theorem dL_isDone_317 : decode cL_isDone 317 = .ok (.iconst 0, 1) := by decide +kernel
theorem dL_isDone_318 : decode cL_isDone 318 = .ok (.ireturn, 1) := by decide +kernel
theorem dL_isDone_319 : decode cL_isDone 319 = .ok (.iload 7, 2) := by decide +kernel
theorem dL_isDone_321 : decode cL_isDone 321 = .ok (.bipush 14, 2) := by decide +kernel
theorem dL_isDone_323 : decode cL_isDone 323 = .ok (.if_icmp .ne 77, 3) := by decide +kernel
theorem dL_isDone_326 : decode cL_isDone 326 = .ok (.bipush 49, 2) := by decide +kernel
theorem dL_isDone_328 : decode cL_isDone 328 = .ok (.iload 8, 2) := by decide +kernel
theorem dL_isDone_330 : decode cL_isDone 330 = .ok (.bipush 53, 2) := by decide +kernel
theorem dL_isDone_332 : decode cL_isDone 332 = .ok (.irem, 1) := by decide +kernel
theorem dL_isDone_333 : decode cL_isDone 333 = .ok (.iadd, 1) := by decide +kernel
theorem dL_isDone_334 : decode cL_isDone 334 = .ok (.istore 11, 2) := by decide +kernel
theorem dL_isDone_336 : decode cL_isDone 336 = .ok (.iload 11, 2) := by decide +kernel
theorem dL_isDone_338 : decode cL_isDone 338 = .ok (.bipush 50, 2) := by decide +kernel
theorem dL_isDone_340 : decode cL_isDone 340 = .ok (.if_icmp .lt 10, 3) := by decide +kernel
theorem dL_isDone_343 : decode cL_isDone 343 = .ok (.iload 11, 2) := by decide +kernel
theorem dL_isDone_345 : decode cL_isDone 345 = .ok (.bipush 100, 2) := by decide +kernel
theorem dL_isDone_347 : decode cL_isDone 347 = .ok (.if_icmp .le 8, 3) := by decide +kernel
theorem dL_isDone_350 : decode cL_isDone 350 = .ok (.bipush (-20), 2) := by decide +kernel
theorem dL_isDone_352 : decode cL_isDone 352 = .ok (.goto 7, 3) := by decide +kernel
theorem dL_isDone_355 : decode cL_isDone 355 = .ok (.aload 6, 2) := by decide +kernel
theorem dL_isDone_357 : decode cL_isDone 357 = .ok (.iconst 3, 1) := by decide +kernel
theorem dL_isDone_358 : decode cL_isDone 358 = .ok (.iaload, 1) := by decide +kernel
theorem dL_isDone_359 : decode cL_isDone 359 = .ok (.istore 12, 2) := by decide +kernel
theorem dL_isDone_361 : decode cL_isDone 361 = .ok (.aload 6, 2) := by decide +kernel
theorem dL_isDone_363 : decode cL_isDone 363 = .ok (.iconst 3, 1) := by decide +kernel
theorem dL_isDone_364 : decode cL_isDone 364 = .ok (.iload 12, 2) := by decide +kernel
theorem dL_isDone_366 : decode cL_isDone 366 = .ok (.ifCond .ge 10, 3) := by decide +kernel
theorem dL_isDone_369 : decode cL_isDone 369 = .ok (.aload 6, 2) := by decide +kernel
theorem dL_isDone_371 : decode cL_isDone 371 = .ok (.iconst 3, 1) := by decide +kernel
theorem dL_isDone_372 : decode cL_isDone 372 = .ok (.iaload, 1) := by decide +kernel
theorem dL_isDone_373 : decode cL_isDone 373 = .ok (.goto 5, 3) := by decide +kernel
theorem dL_isDone_376 : decode cL_isDone 376 = .ok (.iload 11, 2) := by decide +kernel
theorem dL_isDone_378 : decode cL_isDone 378 = .ok (.iastore, 1) := by decide +kernel
theorem dL_isDone_379 : decode cL_isDone 379 = .ok (.aload_n 0, 1) := by decide +kernel
theorem dL_isDone_380 : decode cL_isDone 380 = .ok (.iconst 3, 1) := by decide +kernel
theorem dL_isDone_381 : decode cL_isDone 381 = .ok (.iload 11, 2) := by decide +kernel
theorem dL_isDone_383 : decode cL_isDone 383 = .ok (.iconst 0, 1) := by decide +kernel
theorem dL_isDone_384 : decode cL_isDone 384 = .ok (.iconst 0, 1) := by decide +kernel
theorem dL_isDone_385 : decode cL_isDone 385 = .ok (.iconst 0, 1) := by decide +kernel
theorem dL_isDone_386 : decode cL_isDone 386 = .ok (.invokestatic 113, 3) := by decide +kernel
theorem dL_isDone_389 : decode cL_isDone 389 = .ok (.iload 12, 2) := by decide +kernel
theorem dL_isDone_391 : decode cL_isDone 391 = .ok (.if_icmp .ne 7, 3) := by decide +kernel
theorem dL_isDone_394 : decode cL_isDone 394 = .ok (.iconst 1, 1) := by decide +kernel
theorem dL_isDone_395 : decode cL_isDone 395 = .ok (.goto 4, 3) := by decide +kernel
theorem dL_isDone_398 : decode cL_isDone 398 = .ok (.iconst 0, 1) := by decide +kernel
theorem dL_isDone_399 : decode cL_isDone 399 = .ok (.ireturn, 1) := by decide +kernel
theorem dL_isDone_400 : decode cL_isDone 400 = .ok (.iload 7, 2) := by decide +kernel
theorem dL_isDone_402 : decode cL_isDone 402 = .ok (.bipush 27, 2) := by decide +kernel
theorem dL_isDone_404 : decode cL_isDone 404 = .ok (.if_icmp .ge 66, 3) := by decide +kernel
theorem dL_isDone_407 : decode cL_isDone 407 = .ok (.aload 6, 2) := by decide +kernel
theorem dL_isDone_409 : decode cL_isDone 409 = .ok (.bipush 6, 2) := by decide +kernel
theorem dL_isDone_411 : decode cL_isDone 411 = .ok (.iaload, 1) := by decide +kernel
theorem dL_isDone_412 : decode cL_isDone 412 = .ok (.bipush 18, 2) := by decide +kernel
theorem dL_isDone_414 : decode cL_isDone 414 = .ok (.if_icmp .gt 50, 3) := by decide +kernel
theorem dL_isDone_417 : decode cL_isDone 417 = .ok (.aload_n 0, 1) := by decide +kernel
theorem dL_isDone_418 : decode cL_isDone 418 = .ok (.aload_n 3, 1) := by decide +kernel
theorem dL_isDone_419 : decode cL_isDone 419 = .ok (.aload 4, 2) := by decide +kernel
theorem dL_isDone_421 : decode cL_isDone 421 = .ok (.aload 5, 2) := by decide +kernel
theorem dL_isDone_423 : decode cL_isDone 423 = .ok (.aload 6, 2) := by decide +kernel
theorem dL_isDone_425 : decode cL_isDone 425 = .ok (.iload 8, 2) := by decide +kernel
theorem dL_isDone_427 : decode cL_isDone 427 = .ok (.bipush 12, 2) := by decide +kernel
theorem dL_isDone_429 : decode cL_isDone 429 = .ok (.irem, 1) := by decide +kernel
theorem dL_isDone_430 : decode cL_isDone 430 = .ok (.ifCond .ne 10, 3) := by decide +kernel
theorem dL_isDone_433 : decode cL_isDone 433 = .ok (.aload 6, 2) := by decide +kernel
theorem dL_isDone_435 : decode cL_isDone 435 = .ok (.iconst 4, 1) := by decide +kernel
theorem dL_isDone_436 : decode cL_isDone 436 = .ok (.iaload, 1) := by decide +kernel
theorem dL_isDone_437 : decode cL_isDone 437 = .ok (.goto 21, 3) := by decide +kernel
theorem dL_isDone_440 : decode cL_isDone 440 = .ok (.iload 8, 2) := by decide +kernel
theorem dL_isDone_442 : decode cL_isDone 442 = .ok (.aload 6, 2) := by decide +kernel
theorem dL_isDone_444 : decode cL_isDone 444 = .ok (.iconst 4, 1) := by decide +kernel
theorem dL_isDone_445 : decode cL_isDone 445 = .ok (.iaload, 1) := by decide +kernel
theorem dL_isDone_446 : decode cL_isDone 446 = .ok (.ifCond .ne 7, 3) := by decide +kernel
theorem dL_isDone_449 : decode cL_isDone 449 = .ok (.iconst 1, 1) := by decide +kernel
theorem dL_isDone_450 : decode cL_isDone 450 = .ok (.goto 7, 3) := by decide +kernel
theorem dL_isDone_453 : decode cL_isDone 453 = .ok (.aload 6, 2) := by decide +kernel
theorem dL_isDone_455 : decode cL_isDone 455 = .ok (.iconst 4, 1) := by decide +kernel
theorem dL_isDone_456 : decode cL_isDone 456 = .ok (.iaload, 1) := by decide +kernel
theorem dL_isDone_457 : decode cL_isDone 457 = .ok (.irem, 1) := by decide +kernel
theorem dL_isDone_458 : decode cL_isDone 458 = .ok (.invokestatic 129, 3) := by decide +kernel
theorem dL_isDone_461 : decode cL_isDone 461 = .ok (.ifCond .eq 7, 3) := by decide +kernel
theorem dL_isDone_464 : decode cL_isDone 464 = .ok (.iconst 1, 1) := by decide +kernel
theorem dL_isDone_465 : decode cL_isDone 465 = .ok (.goto 4, 3) := by decide +kernel
theorem dL_isDone_468 : decode cL_isDone 468 = .ok (.iconst 0, 1) := by decide +kernel
theorem dL_isDone_469 : decode cL_isDone 469 = .ok (.ireturn, 1) := by decide +kernel
theorem dL_isDone_470 : decode cL_isDone 470 = .ok (.iload 7, 2) := by decide +kernel
theorem dL_isDone_472 : decode cL_isDone 472 = .ok (.bipush 33, 2) := by decide +kernel
theorem dL_isDone_474 : decode cL_isDone 474 = .ok (.if_icmp .ge 67, 3) := by decide +kernel
theorem dL_isDone_477 : decode cL_isDone 477 = .ok (.aload 6, 2) := by decide +kernel
theorem dL_isDone_479 : decode cL_isDone 479 = .ok (.bipush 6, 2) := by decide +kernel
theorem dL_isDone_481 : decode cL_isDone 481 = .ok (.iaload, 1) := by decide +kernel
theorem dL_isDone_482 : decode cL_isDone 482 = .ok (.bipush 18, 2) := by decide +kernel
theorem dL_isDone_484 : decode cL_isDone 484 = .ok (.if_icmp .gt 51, 3) := by decide +kernel
theorem dL_isDone_487 : decode cL_isDone 487 = .ok (.aload_n 0, 1) := by decide +kernel
theorem dL_isDone_488 : decode cL_isDone 488 = .ok (.aload 5, 2) := by decide +kernel
theorem dL_isDone_490 : decode cL_isDone 490 = .ok (.aload 6, 2) := by decide +kernel
theorem dL_isDone_492 : decode cL_isDone 492 = .ok (.iload 8, 2) := by decide +kernel
theorem dL_isDone_494 : decode cL_isDone 494 = .ok (.iconst 4, 1) := by decide +kernel
theorem dL_isDone_495 : decode cL_isDone 495 = .ok (.irem, 1) := by decide +kernel
theorem dL_isDone_496 : decode cL_isDone 496 = .ok (.iload 9, 2) := by decide +kernel
theorem dL_isDone_498 : decode cL_isDone 498 = .ok (.iconst 4, 1) := by decide +kernel
theorem dL_isDone_499 : decode cL_isDone 499 = .ok (.irem, 1) := by decide +kernel
theorem dL_isDone_500 : decode cL_isDone 500 = .ok (.iload 10, 2) := by decide +kernel
theorem dL_isDone_502 : decode cL_isDone 502 = .ok (.bipush 8, 2) := by decide +kernel
theorem dL_isDone_504 : decode cL_isDone 504 = .ok (.irem, 1) := by decide +kernel
theorem dL_isDone_505 : decode cL_isDone 505 = .ok (.iconst 1, 1) := by decide +kernel
theorem dL_isDone_506 : decode cL_isDone 506 = .ok (.iload 10, 2) := by decide +kernel
theorem dL_isDone_508 : decode cL_isDone 508 = .ok (.sipush 200, 3) := by decide +kernel
theorem dL_isDone_511 : decode cL_isDone 511 = .ok (.irem, 1) := by decide +kernel
theorem dL_isDone_512 : decode cL_isDone 512 = .ok (.iadd, 1) := by decide +kernel
theorem dL_isDone_513 : decode cL_isDone 513 = .ok (.iload 8, 2) := by decide +kernel
theorem dL_isDone_515 : decode cL_isDone 515 = .ok (.bipush 30, 2) := by decide +kernel
theorem dL_isDone_517 : decode cL_isDone 517 = .ok (.irem, 1) := by decide +kernel
theorem dL_isDone_518 : decode cL_isDone 518 = .ok (.ifCond .ne 9, 3) := by decide +kernel
theorem dL_isDone_521 : decode cL_isDone 521 = .ok (.sipush 3000, 3) := by decide +kernel
theorem dL_isDone_524 : decode cL_isDone 524 = .ok (.goto 4, 3) := by decide +kernel
theorem dL_isDone_527 : decode cL_isDone 527 = .ok (.iconst 0, 1) := by decide +kernel
theorem dL_isDone_528 : decode cL_isDone 528 = .ok (.iadd, 1) := by decide +kernel
theorem dL_isDone_529 : decode cL_isDone 529 = .ok (.invokestatic 133, 3) := by decide +kernel
theorem dL_isDone_532 : decode cL_isDone 532 = .ok (.ifCond .eq 7, 3) := by decide +kernel
theorem dL_isDone_535 : decode cL_isDone 535 = .ok (.iconst 1, 1) := by decide +kernel
theorem dL_isDone_536 : decode cL_isDone 536 = .ok (.goto 4, 3) := by decide +kernel
theorem dL_isDone_539 : decode cL_isDone 539 = .ok (.iconst 0, 1) := by decide +kernel
theorem dL_isDone_540 : decode cL_isDone 540 = .ok (.ireturn, 1) := by decide +kernel
theorem dL_isDone_541 : decode cL_isDone 541 = .ok (.iload 7, 2) := by decide +kernel
theorem dL_isDone_543 : decode cL_isDone 543 = .ok (.bipush 36, 2) := by decide +kernel
theorem dL_isDone_545 : decode cL_isDone 545 = .ok (.if_icmp .ge 92, 3) := by decide +kernel
theorem dL_isDone_548 : decode cL_isDone 548 = .ok (.iload 8, 2) := by decide +kernel
theorem dL_isDone_550 : decode cL_isDone 550 = .ok (.aload 6, 2) := by decide +kernel
theorem dL_isDone_552 : decode cL_isDone 552 = .ok (.bipush 6, 2) := by decide +kernel
theorem dL_isDone_554 : decode cL_isDone 554 = .ok (.iaload, 1) := by decide +kernel
theorem dL_isDone_555 : decode cL_isDone 555 = .ok (.iconst 1, 1) := by decide +kernel
theorem dL_isDone_556 : decode cL_isDone 556 = .ok (.iadd, 1) := by decide +kernel
theorem dL_isDone_557 : decode cL_isDone 557 = .ok (.irem, 1) := by decide +kernel
theorem dL_isDone_558 : decode cL_isDone 558 = .ok (.istore 11, 2) := by decide +kernel
theorem dL_isDone_560 : decode cL_isDone 560 = .ok (.iload 11, 2) := by decide +kernel
theorem dL_isDone_562 : decode cL_isDone 562 = .ok (.aload 6, 2) := by decide +kernel
theorem dL_isDone_564 : decode cL_isDone 564 = .ok (.bipush 6, 2) := by decide +kernel
theorem dL_isDone_566 : decode cL_isDone 566 = .ok (.iaload, 1) := by decide +kernel
theorem dL_isDone_567 : decode cL_isDone 567 = .ok (.if_icmp .ne 8, 3) := by decide +kernel
theorem dL_isDone_570 : decode cL_isDone 570 = .ok (.bipush (-30), 2) := by decide +kernel
theorem dL_isDone_572 : decode cL_isDone 572 = .ok (.goto 27, 3) := by decide +kernel
theorem dL_isDone_575 : decode cL_isDone 575 = .ok (.aload 5, 2) := by decide +kernel
theorem dL_isDone_577 : decode cL_isDone 577 = .ok (.bipush 20, 2) := by decide +kernel
theorem dL_isDone_579 : decode cL_isDone 579 = .ok (.iload 11, 2) := by decide +kernel
theorem dL_isDone_581 : decode cL_isDone 581 = .ok (.iadd, 1) := by decide +kernel
theorem dL_isDone_582 : decode cL_isDone 582 = .ok (.iaload, 1) := by decide +kernel
theorem dL_isDone_583 : decode cL_isDone 583 = .ok (.ifCond .ne 8, 3) := by decide +kernel
theorem dL_isDone_586 : decode cL_isDone 586 = .ok (.bipush (-10), 2) := by decide +kernel
theorem dL_isDone_588 : decode cL_isDone 588 = .ok (.goto 11, 3) := by decide +kernel
theorem dL_isDone_591 : decode cL_isDone 591 = .ok (.aload 5, 2) := by decide +kernel
theorem dL_isDone_593 : decode cL_isDone 593 = .ok (.iload 11, 2) := by decide +kernel
theorem dL_isDone_595 : decode cL_isDone 595 = .ok (.iaload, 1) := by decide +kernel
theorem dL_isDone_596 : decode cL_isDone 596 = .ok (.bipush 100, 2) := by decide +kernel
theorem dL_isDone_598 : decode cL_isDone 598 = .ok (.irem, 1) := by decide +kernel
theorem dL_isDone_599 : decode cL_isDone 599 = .ok (.istore 12, 2) := by decide +kernel
theorem dL_isDone_601 : decode cL_isDone 601 = .ok (.iload 12, 2) := by decide +kernel
theorem dL_isDone_603 : decode cL_isDone 603 = .ok (.ifCond .le 12, 3) := by decide +kernel
theorem dL_isDone_606 : decode cL_isDone 606 = .ok (.aload 5, 2) := by decide +kernel
theorem dL_isDone_608 : decode cL_isDone 608 = .ok (.bipush 20, 2) := by decide +kernel
theorem dL_isDone_610 : decode cL_isDone 610 = .ok (.iload 11, 2) := by decide +kernel
theorem dL_isDone_612 : decode cL_isDone 612 = .ok (.iadd, 1) := by decide +kernel
theorem dL_isDone_613 : decode cL_isDone 613 = .ok (.iconst 0, 1) := by decide +kernel
theorem dL_isDone_614 : decode cL_isDone 614 = .ok (.iastore, 1) := by decide +kernel
theorem dL_isDone_615 : decode cL_isDone 615 = .ok (.aload_n 0, 1) := by decide +kernel
theorem dL_isDone_616 : decode cL_isDone 616 = .ok (.bipush 6, 2) := by decide +kernel
theorem dL_isDone_618 : decode cL_isDone 618 = .ok (.iload 11, 2) := by decide +kernel
theorem dL_isDone_620 : decode cL_isDone 620 = .ok (.iconst 0, 1) := by decide +kernel
theorem dL_isDone_621 : decode cL_isDone 621 = .ok (.iconst 0, 1) := by decide +kernel
theorem dL_isDone_622 : decode cL_isDone 622 = .ok (.iconst 0, 1) := by decide +kernel
theorem dL_isDone_623 : decode cL_isDone 623 = .ok (.invokestatic 113, 3) := by decide +kernel
theorem dL_isDone_626 : decode cL_isDone 626 = .ok (.iload 12, 2) := by decide +kernel
theorem dL_isDone_628 : decode cL_isDone 628 = .ok (.if_icmp .ne 7, 3) := by decide +kernel
theorem dL_isDone_631 : decode cL_isDone 631 = .ok (.iconst 1, 1) := by decide +kernel
theorem dL_isDone_632 : decode cL_isDone 632 = .ok (.goto 4, 3) := by decide +kernel
theorem dL_isDone_635 : decode cL_isDone 635 = .ok (.iconst 0, 1) := by decide +kernel
