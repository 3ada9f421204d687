theorem dL_isAsked_0 : decode cL_isAsked 0 = .ok (.iload 5, 2) := by decide +kernel
theorem dL_isAsked_2 : decode cL_isAsked 2 = .ok (.aload 4, 2) := by decide +kernel
theorem dL_isAsked_4 : decode cL_isAsked 4 = .ok (.iconst 4, 1) := by decide +kernel
theorem dL_isAsked_5 : decode cL_isAsked 5 = .ok (.iaload, 1) := by decide +kernel
theorem dL_isAsked_6 : decode cL_isAsked 6 = .ok (.if_icmp .ne 24, 3) := by decide +kernel
theorem dL_isAsked_9 : decode cL_isAsked 9 = .ok (.aload_n 0, 1) := by decide +kernel
theorem dL_isAsked_10 : decode cL_isAsked 10 = .ok (.iconst 4, 1) := by decide +kernel
theorem dL_isAsked_11 : decode cL_isAsked 11 = .ok (.iload 5, 2) := by decide +kernel
theorem dL_isAsked_13 : decode cL_isAsked 13 = .ok (.iconst 0, 1) := by decide +kernel
theorem dL_isAsked_14 : decode cL_isAsked 14 = .ok (.iconst 0, 1) := by decide +kernel
theorem dL_isAsked_15 : decode cL_isAsked 15 = .ok (.iconst 0, 1) := by decide +kernel
theorem dL_isAsked_16 : decode cL_isAsked 16 = .ok (.invokestatic 113, 3) := by decide +kernel
theorem dL_isAsked_19 : decode cL_isAsked 19 = .ok (.bipush (-30), 2) := by decide +kernel
theorem dL_isAsked_21 : decode cL_isAsked 21 = .ok (.if_icmp .ne 7, 3) := by decide +kernel
theorem dL_isAsked_24 : decode cL_isAsked 24 = .ok (.iconst 1, 1) := by decide +kernel
theorem dL_isAsked_25 : decode cL_isAsked 25 = .ok (.goto 4, 3) := by decide +kernel
theorem dL_isAsked_28 : decode cL_isAsked 28 = .ok (.iconst 0, 1) := by decide +kernel
theorem dL_isAsked_29 : decode cL_isAsked 29 = .ok (.ireturn, 1) := by decide +kernel
theorem dL_isAsked_30 : decode cL_isAsked 30 = .ok (.bipush 6, 2) := by decide +kernel
theorem dL_isAsked_32 : decode cL_isAsked 32 = .ok (.iload 5, 2) := by decide +kernel
theorem dL_isAsked_34 : decode cL_isAsked 34 = .ok (.imul, 1) := by decide +kernel
theorem dL_isAsked_35 : decode cL_isAsked 35 = .ok (.istore 6, 2) := by decide +kernel
theorem dL_isAsked_37 : decode cL_isAsked 37 = .ok (.aload_n 0, 1) := by decide +kernel
theorem dL_isAsked_38 : decode cL_isAsked 38 = .ok (.iconst 4, 1) := by decide +kernel
theorem dL_isAsked_39 : decode cL_isAsked 39 = .ok (.iload 5, 2) := by decide +kernel
theorem dL_isAsked_41 : decode cL_isAsked 41 = .ok (.iconst 0, 1) := by decide +kernel
theorem dL_isAsked_42 : decode cL_isAsked 42 = .ok (.iconst 0, 1) := by decide +kernel
theorem dL_isAsked_43 : decode cL_isAsked 43 = .ok (.iconst 0, 1) := by decide +kernel
theorem dL_isAsked_44 : decode cL_isAsked 44 = .ok (.invokestatic 113, 3) := by decide +kernel
theorem dL_isAsked_47 : decode cL_isAsked 47 = .ok (.istore 7, 2) := by decide +kernel
theorem dL_isAsked_49 : decode cL_isAsked 49 = .ok (.aload_n 1, 1) := by decide +kernel
theorem dL_isAsked_50 : decode cL_isAsked 50 = .ok (.iload 6, 2) := by decide +kernel
theorem dL_isAsked_52 : decode cL_isAsked 52 = .ok (.iconst 4, 1) := by decide +kernel
theorem dL_isAsked_53 : decode cL_isAsked 53 = .ok (.iadd, 1) := by decide +kernel
theorem dL_isAsked_54 : decode cL_isAsked 54 = .ok (.dup2, 1) := by decide +kernel
theorem dL_isAsked_55 : decode cL_isAsked 55 = .ok (.iaload, 1) := by decide +kernel
theorem dL_isAsked_56 : decode cL_isAsked 56 = .ok (.iconst 1, 1) := by decide +kernel
theorem dL_isAsked_57 : decode cL_isAsked 57 = .ok (.iadd, 1) := by decide +kernel
theorem dL_isAsked_58 : decode cL_isAsked 58 = .ok (.iastore, 1) := by decide +kernel
theorem dL_isAsked_59 : decode cL_isAsked 59 = .ok (.iconst 0, 1) := by decide +kernel
theorem dL_isAsked_60 : decode cL_isAsked 60 = .ok (.istore 8, 2) := by decide +kernel
theorem dL_isAsked_62 : decode cL_isAsked 62 = .ok (.iconst 0, 1) := by decide +kernel
theorem dL_isAsked_63 : decode cL_isAsked 63 = .ok (.istore 9, 2) := by decide +kernel
theorem dL_isAsked_65 : decode cL_isAsked 65 = .ok (.aload_n 1, 1) := by decide +kernel
theorem dL_isAsked_66 : decode cL_isAsked 66 = .ok (.iload 6, 2) := by decide +kernel
theorem dL_isAsked_68 : decode cL_isAsked 68 = .ok (.iaload, 1) := by decide +kernel
theorem dL_isAsked_69 : decode cL_isAsked 69 = .ok (.istore 10, 2) := by decide +kernel
theorem dL_isAsked_71 : decode cL_isAsked 71 = .ok (.iload 10, 2) := by decide +kernel
theorem dL_isAsked_73 : decode cL_isAsked 73 = .ok (.aload_n 1, 1) := by decide +kernel
theorem dL_isAsked_74 : decode cL_isAsked 74 = .ok (.iload 6, 2) := by decide +kernel
theorem dL_isAsked_76 : decode cL_isAsked 76 = .ok (.iconst 1, 1) := by decide +kernel
theorem dL_isAsked_77 : decode cL_isAsked 77 = .ok (.iadd, 1) := by decide +kernel
theorem dL_isAsked_78 : decode cL_isAsked 78 = .ok (.iaload, 1) := by decide +kernel
theorem dL_isAsked_79 : decode cL_isAsked 79 = .ok (.if_icmp .gt 76, 3) := by decide +kernel
theorem dL_isAsked_82 : decode cL_isAsked 82 = .ok (.aload 4, 2) := by decide +kernel
theorem dL_isAsked_84 : decode cL_isAsked 84 = .ok (.iload 10, 2) := by decide +kernel
theorem dL_isAsked_86 : decode cL_isAsked 86 = .ok (.invokestatic 106, 3) := by decide +kernel
theorem dL_isAsked_89 : decode cL_isAsked 89 = .ok (.aload_n 3, 1) := by decide +kernel
theorem dL_isAsked_90 : decode cL_isAsked 90 = .ok (.aload 4, 2) := by decide +kernel
theorem dL_isAsked_92 : decode cL_isAsked 92 = .ok (.iload 10, 2) := by decide +kernel
theorem dL_isAsked_94 : decode cL_isAsked 94 = .ok (.invokestatic 103, 3) := by decide +kernel
theorem dL_isAsked_97 : decode cL_isAsked 97 = .ok (.isub, 1) := by decide +kernel
theorem dL_isAsked_98 : decode cL_isAsked 98 = .ok (.istore 11, 2) := by decide +kernel
theorem dL_isAsked_100 : decode cL_isAsked 100 = .ok (.iload 8, 2) := by decide +kernel
theorem dL_isAsked_102 : decode cL_isAsked 102 = .ok (.ifCond .ne 8, 3) := by decide +kernel
theorem dL_isAsked_105 : decode cL_isAsked 105 = .ok (.iload 11, 2) := by decide +kernel
theorem dL_isAsked_107 : decode cL_isAsked 107 = .ok (.ifCond .gt 7, 3) := by decide +kernel
theorem dL_isAsked_110 : decode cL_isAsked 110 = .ok (.iconst 1, 1) := by decide +kernel
theorem dL_isAsked_111 : decode cL_isAsked 111 = .ok (.goto 4, 3) := by decide +kernel
theorem dL_isAsked_114 : decode cL_isAsked 114 = .ok (.iconst 0, 1) := by decide +kernel
theorem dL_isAsked_115 : decode cL_isAsked 115 = .ok (.istore 8, 2) := by decide +kernel
theorem dL_isAsked_117 : decode cL_isAsked 117 = .ok (.iload 9, 2) := by decide +kernel
theorem dL_isAsked_119 : decode cL_isAsked 119 = .ok (.ifCond .ne 23, 3) := by decide +kernel
theorem dL_isAsked_122 : decode cL_isAsked 122 = .ok (.iload 11, 2) := by decide +kernel
theorem dL_isAsked_124 : decode cL_isAsked 124 = .ok (.aload_n 1, 1) := by decide +kernel
theorem dL_isAsked_125 : decode cL_isAsked 125 = .ok (.aload_n 2, 1) := by decide +kernel
theorem dL_isAsked_126 : decode cL_isAsked 126 = .ok (.aload 4, 2) := by decide +kernel
theorem dL_isAsked_128 : decode cL_isAsked 128 = .ok (.iload 10, 2) := by decide +kernel
theorem dL_isAsked_130 : decode cL_isAsked 130 = .ok (.aload_n 1, 1) := by decide +kernel
theorem dL_isAsked_131 : decode cL_isAsked 131 = .ok (.iload 6, 2) := by decide +kernel
theorem dL_isAsked_133 : decode cL_isAsked 133 = .ok (.iconst 2, 1) := by decide +kernel
theorem dL_isAsked_134 : decode cL_isAsked 134 = .ok (.iadd, 1) := by decide +kernel
theorem dL_isAsked_135 : decode cL_isAsked 135 = .ok (.iaload, 1) := by decide +kernel
theorem dL_isAsked_136 : decode cL_isAsked 136 = .ok (.invokestatic 109, 3) := by decide +kernel
theorem dL_isAsked_139 : decode cL_isAsked 139 = .ok (.if_icmp .gt 7, 3) := by decide +kernel
theorem dL_isAsked_142 : decode cL_isAsked 142 = .ok (.iconst 1, 1) := by decide +kernel
theorem dL_isAsked_143 : decode cL_isAsked 143 = .ok (.goto 4, 3) := by decide +kernel
theorem dL_isAsked_146 : decode cL_isAsked 146 = .ok (.iconst 0, 1) := by decide +kernel
theorem dL_isAsked_147 : decode cL_isAsked 147 = .ok (.istore 9, 2) := by decide +kernel
theorem dL_isAsked_149 : decode cL_isAsked 149 = .ok (.iinc 10 1, 3) := by decide +kernel
theorem dL_isAsked_152 : decode cL_isAsked 152 = .ok (.goto (-81), 3) := by decide +kernel
theorem dL_isAsked_155 : decode cL_isAsked 155 = .ok (.iload 7, 2) := by decide +kernel
theorem dL_isAsked_157 : decode cL_isAsked 157 = .ok (.ifCond .ge 99, 3) := by decide +kernel
theorem dL_isAsked_160 : decode cL_isAsked 160 = .ok (.iconst 0, 1) := by decide +kernel
theorem dL_isAsked_161 : decode cL_isAsked 161 = .ok (.istore 10, 2) := by decide +kernel
theorem dL_isAsked_163 : decode cL_isAsked 163 = .ok (.aload_n 1, 1) := by decide +kernel
theorem dL_isAsked_164 : decode cL_isAsked 164 = .ok (.iload 6, 2) := by decide +kernel
theorem dL_isAsked_166 : decode cL_isAsked 166 = .ok (.iaload, 1) := by decide +kernel
theorem dL_isAsked_167 : decode cL_isAsked 167 = .ok (.istore 11, 2) := by decide +kernel
theorem dL_isAsked_169 : decode cL_isAsked 169 = .ok (.iload 11, 2) := by decide +kernel
theorem dL_isAsked_171 : decode cL_isAsked 171 = .ok (.aload_n 1, 1) := by decide +kernel
theorem dL_isAsked_172 : decode cL_isAsked 172 = .ok (.iload 6, 2) := by decide +kernel
theorem dL_isAsked_174 : decode cL_isAsked 174 = .ok (.iconst 1, 1) := by decide +kernel
theorem dL_isAsked_175 : decode cL_isAsked 175 = .ok (.iadd, 1) := by decide +kernel
theorem dL_isAsked_176 : decode cL_isAsked 176 = .ok (.iaload, 1) := by decide +kernel
theorem dL_isAsked_177 : decode cL_isAsked 177 = .ok (.if_icmp .gt 20, 3) := by decide +kernel
theorem dL_isAsked_180 : decode cL_isAsked 180 = .ok (.iload 10, 2) := by decide +kernel
theorem dL_isAsked_182 : decode cL_isAsked 182 = .ok (.aload_n 0, 1) := by decide +kernel
theorem dL_isAsked_183 : decode cL_isAsked 183 = .ok (.iload 11, 2) := by decide +kernel
theorem dL_isAsked_185 : decode cL_isAsked 185 = .ok (.invokevirtual 60, 3) := by decide +kernel
theorem dL_isAsked_188 : decode cL_isAsked 188 = .ok (.iadd, 1) := by decide +kernel
theorem dL_isAsked_189 : decode cL_isAsked 189 = .ok (.istore 10, 2) := by decide +kernel
theorem dL_isAsked_191 : decode cL_isAsked 191 = .ok (.iinc 11 1, 3) := by decide +kernel
theorem dL_isAsked_194 : decode cL_isAsked 194 = .ok (.goto (-25), 3) := by decide +kernel
theorem dL_isAsked_197 : decode cL_isAsked 197 = .ok (.aload 4, 2) := by decide +kernel
theorem dL_isAsked_199 : decode cL_isAsked 199 = .ok (.bipush 6, 2) := by decide +kernel
theorem dL_isAsked_201 : decode cL_isAsked 201 = .ok (.iload 7, 2) := by decide +kernel
theorem dL_isAsked_203 : decode cL_isAsked 203 = .ok (.isub, 1) := by decide +kernel
theorem dL_isAsked_204 : decode cL_isAsked 204 = .ok (.dup2, 1) := by decide +kernel
theorem dL_isAsked_205 : decode cL_isAsked 205 = .ok (.iaload, 1) := by decide +kernel
theorem dL_isAsked_206 : decode cL_isAsked 206 = .ok (.iconst 1, 1) := by decide +kernel
theorem dL_isAsked_207 : decode cL_isAsked 207 = .ok (.iadd, 1) := by decide +kernel
theorem dL_isAsked_208 : decode cL_isAsked 208 = .ok (.iastore, 1) := by decide +kernel
theorem dL_isAsked_209 : decode cL_isAsked 209 = .ok (.iload 7, 2) := by decide +kernel
theorem dL_isAsked_211 : decode cL_isAsked 211 = .ok (.iload 8, 2) := by decide +kernel
theorem dL_isAsked_213 : decode cL_isAsked 213 = .ok (.ifCond .eq 7, 3) := by decide +kernel
theorem dL_isAsked_216 : decode cL_isAsked 216 = .ok (.iconst (-1), 1) := by decide +kernel
theorem dL_isAsked_217 : decode cL_isAsked 217 = .ok (.goto 30, 3) := by decide +kernel
theorem dL_isAsked_220 : decode cL_isAsked 220 = .ok (.iload 9, 2) := by decide +kernel
theorem dL_isAsked_222 : decode cL_isAsked 222 = .ok (.ifCond .eq 8, 3) := by decide +kernel
theorem dL_isAsked_225 : decode cL_isAsked 225 = .ok (.bipush (-2), 2) := by decide +kernel
theorem dL_isAsked_227 : decode cL_isAsked 227 = .ok (.goto 20, 3) := by decide +kernel
theorem dL_isAsked_230 : decode cL_isAsked 230 = .ok (.iload 10, 2) := by decide +kernel
theorem dL_isAsked_232 : decode cL_isAsked 232 = .ok (.aload_n 1, 1) := by decide +kernel
theorem dL_isAsked_233 : decode cL_isAsked 233 = .ok (.iload 6, 2) := by decide +kernel
theorem dL_isAsked_235 : decode cL_isAsked 235 = .ok (.iconst 2, 1) := by decide +kernel
theorem dL_isAsked_236 : decode cL_isAsked 236 = .ok (.iadd, 1) := by decide +kernel
theorem dL_isAsked_237 : decode cL_isAsked 237 = .ok (.iaload, 1) := by decide +kernel
theorem dL_isAsked_238 : decode cL_isAsked 238 = .ok (.if_icmp .le 8, 3) := by decide +kernel
theorem dL_isAsked_241 : decode cL_isAsked 241 = .ok (.bipush (-3), 2) := by decide +kernel
theorem dL_isAsked_243 : decode cL_isAsked 243 = .ok (.goto 4, 3) := by decide +kernel
theorem dL_isAsked_246 : decode cL_isAsked 246 = .ok (.iconst 0, 1) := by decide +kernel
theorem dL_isAsked_247 : decode cL_isAsked 247 = .ok (.if_icmp .ne 7, 3) := by decide +kernel
theorem dL_isAsked_250 : decode cL_isAsked 250 = .ok (.iconst 1, 1) := by decide +kernel
theorem dL_isAsked_251 : decode cL_isAsked 251 = .ok (.goto 4, 3) := by decide +kernel
theorem dL_isAsked_254 : decode cL_isAsked 254 = .ok (.iconst 0, 1) := by decide +kernel
theorem dL_isAsked_255 : decode cL_isAsked 255 = .ok (.ireturn, 1) := by decide +kernel
theorem dL_isAsked_256 : decode cL_isAsked 256 = .ok (.iload 8, 2) := by decide +kernel
theorem dL_isAsked_258 : decode cL_isAsked 258 = .ok (.ifCond .ne 22, 3) := by decide +kernel
theorem dL_isAsked_261 : decode cL_isAsked 261 = .ok (.iload 9, 2) := by decide +kernel
theorem dL_isAsked_263 : decode cL_isAsked 263 = .ok (.ifCond .ne 17, 3) := by decide +kernel
theorem dL_isAsked_266 : decode cL_isAsked 266 = .ok (.iload 7, 2) := by decide +kernel
theorem dL_isAsked_268 : decode cL_isAsked 268 = .ok (.aload 4, 2) := by decide +kernel
theorem dL_isAsked_270 : decode cL_isAsked 270 = .ok (.bipush 6, 2) := by decide +kernel
theorem dL_isAsked_272 : decode cL_isAsked 272 = .ok (.iaload, 1) := by decide +kernel
theorem dL_isAsked_273 : decode cL_isAsked 273 = .ok (.if_icmp .ne 7, 3) := by decide +kernel
theorem dL_isAsked_276 : decode cL_isAsked 276 = .ok (.iconst 1, 1) := by decide +kernel
theorem dL_isAsked_277 : decode cL_isAsked 277 = .ok (.goto 4, 3) := by decide +kernel
theorem dL_isAsked_280 : decode cL_isAsked 280 = .ok (.iconst 0, 1) := by decide +kernel
theorem dL_isAsked_281 : decode cL_isAsked 281 = .ok (.istore 10, 2) := by decide +kernel
theorem dL_isAsked_283 : decode cL_isAsked 283 = .ok (.aload_n 3, 1) := by decide +kernel
theorem dL_isAsked_284 : decode cL_isAsked 284 = .ok (.aload 4, 2) := by decide +kernel
theorem dL_isAsked_286 : decode cL_isAsked 286 = .ok (.aload_n 1, 1) := by decide +kernel
theorem dL_isAsked_287 : decode cL_isAsked 287 = .ok (.iload 6, 2) := by decide +kernel
theorem dL_isAsked_289 : decode cL_isAsked 289 = .ok (.iaload, 1) := by decide +kernel
theorem dL_isAsked_290 : decode cL_isAsked 290 = .ok (.aload_n 1, 1) := by decide +kernel
theorem dL_isAsked_291 : decode cL_isAsked 291 = .ok (.iload 6, 2) := by decide +kernel
theorem dL_isAsked_293 : decode cL_isAsked 293 = .ok (.iconst 1, 1) := by decide +kernel
theorem dL_isAsked_294 : decode cL_isAsked 294 = .ok (.iadd, 1) := by decide +kernel
theorem dL_isAsked_295 : decode cL_isAsked 295 = .ok (.iaload, 1) := by decide +kernel
theorem dL_isAsked_296 : decode cL_isAsked 296 = .ok (.iconst 1, 1) := by decide +kernel
theorem dL_isAsked_297 : decode cL_isAsked 297 = .ok (.aload_n 1, 1) := by decide +kernel
theorem dL_isAsked_298 : decode cL_isAsked 298 = .ok (.iload 6, 2) := by decide +kernel
theorem dL_isAsked_300 : decode cL_isAsked 300 = .ok (.iconst 2, 1) := by decide +kernel
theorem dL_isAsked_301 : decode cL_isAsked 301 = .ok (.iadd, 1) := by decide +kernel
theorem dL_isAsked_302 : decode cL_isAsked 302 = .ok (.iaload, 1) := by decide +kernel
theorem dL_isAsked_303 : decode cL_isAsked 303 = .ok (.invokestatic 117, 3) := by decide +kernel
theorem dL_isAsked_306 : decode cL_isAsked 306 = .ok (.iload 10, 2) := by decide +kernel
theorem dL_isAsked_308 : decode cL_isAsked 308 = .ok (.ireturn, 1) := by decide +kernel
set_option maxRecDepth 20000 in
theorem ggL_isGroup_L_does_wsL_does_r1 : GoodIn wsL_isGroup wsL_does_r1 := goodIn_r _ [5, 6, 7, 8, 9, 3, 10, 11, 12, 13, 14, 15, 16, 17, 18, 19, 20, 21, 22, 23, 24, 25, 26, 27] (by decide +kernel) (by decide +kernel)
set_option maxRecDepth 20000 in
theorem ggL_isGroup_L_does_wsL_does_r2 : GoodIn wsL_isGroup wsL_does_r2 := goodIn_r _ [28, 29, 30, 31, 32, 33, 34, 35, 36, 37, 38, 39, 40, 41, 42, 43, 44, 45, 46, 47, 48, 49, 50, 51] (by decide +kernel) (by decide +kernel)
set_option maxRecDepth 20000 in
theorem ggL_isGroup_L_does_wsL_does_r3 : GoodIn wsL_isGroup wsL_does_r3 := goodIn_r _ [52, 53, 54, 55, 56, 57, 58, 59, 60, 61, 62, 63, 64, 65, 66, 67, 68, 69, 70, 71, 72, 73, 74, 75] (by decide +kernel) (by decide +kernel)
set_option maxRecDepth 20000 in
theorem ggL_isGroup_L_does_wsL_does_r4 : GoodIn wsL_isGroup wsL_does_r4 := goodIn_r _ [76, 77, 78, 79, 80, 81, 82, 83, 84, 85, 86, 87, 88, 89, 90, 91, 92, 93, 94, 95, 96, 97, 98, 99] (by decide +kernel) (by decide +kernel)
set_option maxRecDepth 20000 in
theorem ggL_isGroup_L_does_wsL_does_r5 : GoodIn wsL_isGroup wsL_does_r5 := goodIn_r _ [100, 101, 102, 103, 104, 105, 106, 107, 108, 109, 110, 111, 112, 113, 114, 115, 116, 117, 118, 119, 120, 121, 122, 123] (by decide +kernel) (by decide +kernel)
set_option maxRecDepth 20000 in
theorem ggL_isGroup_L_does_wsL_does_r6 : GoodIn wsL_isGroup wsL_does_r6 := goodIn_r _ [124, 125, 126, 127, 128, 129, 130, 131, 132, 133, 134, 135, 136, 137, 138, 139, 140, 141, 142, 143, 144, 145, 146, 147] (by decide +kernel) (by decide +kernel)
set_option maxRecDepth 20000 in
theorem ggL_isGroup_L_does_wsL_does_r7 : GoodIn wsL_isGroup wsL_does_r7 := goodIn_r _ [148, 149, 150, 151, 152, 153, 154, 155, 156, 157, 158, 159, 160, 161, 162, 163, 164, 165, 166, 167, 168, 169, 170, 171] (by decide +kernel) (by decide +kernel)
set_option maxRecDepth 20000 in
theorem ggL_isGroup_L_does_wsL_does_r8 : GoodIn wsL_isGroup wsL_does_r8 := goodIn_r _ [172, 173, 174, 175, 176, 177, 178, 179, 180, 181, 182, 183, 184, 185, 186, 187, 188, 189, 190, 191, 192, 193, 194, 195] (by decide +kernel) (by decide +kernel)
set_option maxRecDepth 20000 in
theorem ggL_isGroup_L_does_wsL_does_r9 : GoodIn wsL_isGroup wsL_does_r9 := goodIn_r _ [196, 197, 198, 199, 200, 201, 202, 203, 204, 205, 206, 207, 208, 209, 210, 211, 212, 213, 214, 215, 216, 217, 218, 219] (by decide +kernel) (by decide +kernel)
set_option maxRecDepth 20000 in
theorem ggL_isGroup_L_does_wsL_does_r10 : GoodIn wsL_isGroup wsL_does_r10 := goodIn_r _ [220, 221, 222, 223, 224, 225, 226, 227, 228, 229, 230, 231, 232, 233, 234, 235, 236, 237, 238, 239, 240, 241] (by decide +kernel) (by decide +kernel)
set_option maxRecDepth 20000 in
theorem ggL_isGroup_L_does_wsX50 : GoodIn wsL_isGroup wsX50 := goodIn_r _ [252, 253, 254, 255, 256, 257, 258, 259, 260, 261, 262, 263, 264, 265] (by decide +kernel) (by decide +kernel)
set_option maxRecDepth 20000 in
theorem ggL_isGroup_L_does_wsX20 : GoodIn wsL_isGroup wsX20 := goodIn_r _ [266, 267, 268, 269, 270, 271, 272] (by decide +kernel) (by decide +kernel)
set_option maxRecDepth 20000 in
theorem ggL_isGroup_L_does_wsX00 : GoodIn wsL_isGroup wsX00 := goodIn_r _ [273, 274, 275, 276, 277] (by decide +kernel) (by decide +kernel)
set_option maxRecDepth 20000 in
theorem ggL_isGroup_L_does_wsX10 : GoodIn wsL_isGroup wsX10 := goodIn_r _ [278, 279, 280, 281, 282, 283] (by decide +kernel) (by decide +kernel)
set_option maxRecDepth 20000 in
theorem ggL_isGroup_L_does_wsX30 : GoodIn wsL_isGroup wsX30 := goodIn_r _ [284, 285] (by decide +kernel) (by decide +kernel)
set_option maxRecDepth 100000 in
theorem ggL_isGroup_L_does_code : GoodIn wsL_isGroup [Cond.codeWith yL_does cL_does 7 (some .int) [(0, 108, 109, 45), (0, 108, 114, 47), (0, 108, 119, 49)]] := goodIn_sub (fun w hw => by rw [List.mem_singleton.mp hw]; exact List.mem_of_getElem? (i := 4) (by rfl)) (by rfl)
set_option maxRecDepth 20000 in
theorem ggL_isGroup_L_does : GoodIn wsL_isGroup wsL_does := goodIn_ca (goodIn_ca (goodIn_ca (goodIn_app ggL_isGroup_L_does_code (goodIn_app (goodIn_app (goodIn_app (goodIn_app (goodIn_app (goodIn_app ggL_isGroup_L_does_wsL_does_r1 (goodIn_app ggL_isGroup_L_does_wsL_does_r2 (goodIn_app ggL_isGroup_L_does_wsL_does_r3 (goodIn_app ggL_isGroup_L_does_wsL_does_r4 (goodIn_app ggL_isGroup_L_does_wsL_does_r5 (goodIn_app ggL_isGroup_L_does_wsL_does_r6 (goodIn_app ggL_isGroup_L_does_wsL_does_r7 (goodIn_app ggL_isGroup_L_does_wsL_does_r8 (goodIn_app ggL_isGroup_L_does_wsL_does_r9 ggL_isGroup_L_does_wsL_does_r10))))))))) ggL_isGroup_L_does_wsX50) ggL_isGroup_L_does_wsX20) ggL_isGroup_L_does_wsX00) ggL_isGroup_L_does_wsX10) ggL_isGroup_L_does_wsX30)) (goodIn_sub (fun _ h => List.mem_cons_of_mem _ (List.mem_append_left _ (List.mem_append_left _ (List.mem_append_right _ h)))) (by decide +kernel))) (goodIn_sub (fun _ h => List.mem_cons_of_mem _ (List.mem_append_left _ (List.mem_append_right _ h))) (by decide +kernel))) (goodIn_sub (fun _ h => List.mem_cons_of_mem _ (List.mem_append_right _ h)) (by decide +kernel))
set_option maxRecDepth 20000 in
theorem gL_isGroup_L_does : GoodIn wsL_isGroup (va_wsS RL 113 yL_does wsL_does) := goodIn_app (goodIn_of _ (by decide +kernel)) ggL_isGroup_L_does
set_option maxRecDepth 20000 in
theorem ggL_isGroup_L_booked : GoodIn wsL_isGroup wsL_booked := goodIn_r _ [244] (by decide +kernel) (by decide +kernel)
set_option maxRecDepth 20000 in
theorem gL_isGroup_L_booked : GoodIn wsL_isGroup (va_wsS RL 103 yL_booked wsL_booked) := goodIn_app (goodIn_of _ (by decide +kernel)) ggL_isGroup_L_booked
set_option maxRecDepth 20000 in
theorem ggL_isGroup_X5_displaced : GoodIn wsL_isGroup wsX5_displaced := goodIn_ca (goodIn_ca (goodIn_r _ [248, 30, 31, 16, 17, 39, 40, 14, 41, 18, 19, 20, 209, 210, 211, 212, 174, 175, 176, 177, 178, 165, 166, 167, 110, 111, 112, 113, 25, 90, 91, 92, 93, 82, 94, 95, 96, 97, 98, 99, 85, 100, 101, 102, 103, 104, 105, 213, 214, 215, 216, 139, 140, 141, 142, 143, 64, 144, 145, 146, 147, 148, 149, 150, 151, 152, 153, 154, 155, 156, 157, 158, 159, 160, 161, 37, 162, 163, 54, 55, 164, 168, 169, 170, 171, 172, 173, 179, 180, 181, 182, 183, 184, 185, 186, 187, 188, 189, 190, 191, 192, 193, 194, 195, 196, 252, 253, 254, 255, 256, 257, 258, 259, 260, 261, 262, 263, 264, 265, 273, 274, 275, 276, 277, 278, 279, 280, 281, 282, 283, 284, 285, 266, 267, 268, 269, 270, 271, 272] (by decide +kernel) (by decide +kernel)) (goodIn_sub (fun _ h => List.mem_cons_of_mem _ (List.mem_append_left _ (List.mem_append_right _ h))) (by decide +kernel))) (goodIn_sub (fun _ h => List.mem_cons_of_mem _ (List.mem_append_left _ (List.mem_append_left _ (List.mem_append_right _ h)))) (by decide +kernel))
set_option maxRecDepth 20000 in
theorem gL_isGroup_X5_displaced : GoodIn wsL_isGroup (wsV RL 63 RX5 yX5_displaced wsX5_displaced) := goodIn_app (goodIn_of _ (by decide +kernel)) ggL_isGroup_X5_displaced
set_option maxRecDepth 20000 in
theorem ggL_isGroup_L_books : GoodIn wsL_isGroup wsL_books := goodIn_r _ [251] (by decide +kernel) (by decide +kernel)
set_option maxRecDepth 20000 in
theorem gL_isGroup_L_books : GoodIn wsL_isGroup (va_wsS RL 117 yL_books wsL_books) := goodIn_app (goodIn_of _ (by decide +kernel)) ggL_isGroup_L_books
theorem dL_isGroup_0 : decode cL_isGroup 0 = .ok (.iload_n 3, 1) := by decide +kernel
theorem dL_isGroup_1 : decode cL_isGroup 1 = .ok (.iconst 3, 1) := by decide +kernel
theorem dL_isGroup_2 : decode cL_isGroup 2 = .ok (.if_icmp .ge 13, 3) := by decide +kernel
theorem dL_isGroup_5 : decode cL_isGroup 5 = .ok (.iload 4, 2) := by decide +kernel
theorem dL_isGroup_7 : decode cL_isGroup 7 = .ok (.iconst 3, 1) := by decide +kernel
theorem dL_isGroup_8 : decode cL_isGroup 8 = .ok (.if_icmp .ge 7, 3) := by decide +kernel
theorem dL_isGroup_11 : decode cL_isGroup 11 = .ok (.iconst 1, 1) := by decide +kernel
theorem dL_isGroup_12 : decode cL_isGroup 12 = .ok (.goto 4, 3) := by decide +kernel
theorem dL_isGroup_15 : decode cL_isGroup 15 = .ok (.iconst 0, 1) := by decide +kernel
theorem dL_isGroup_16 : decode cL_isGroup 16 = .ok (.istore 7, 2) := by decide +kernel
theorem dL_isGroup_18 : decode cL_isGroup 18 = .ok (.iload 4, 2) := by decide +kernel
theorem dL_isGroup_20 : decode cL_isGroup 20 = .ok (.iload_n 3, 1) := by decide +kernel
theorem dL_isGroup_21 : decode cL_isGroup 21 = .ok (.if_icmp .lt 32, 3) := by decide +kernel
theorem dL_isGroup_24 : decode cL_isGroup 24 = .ok (.iload 5, 2) := by decide +kernel
theorem dL_isGroup_26 : decode cL_isGroup 26 = .ok (.ifCond .le 27, 3) := by decide +kernel
theorem dL_isGroup_29 : decode cL_isGroup 29 = .ok (.iload 5, 2) := by decide +kernel
theorem dL_isGroup_31 : decode cL_isGroup 31 = .ok (.bipush 11, 2) := by decide +kernel
theorem dL_isGroup_33 : decode cL_isGroup 33 = .ok (.if_icmp .ge 20, 3) := by decide +kernel
theorem dL_isGroup_36 : decode cL_isGroup 36 = .ok (.iload 6, 2) := by decide +kernel
theorem dL_isGroup_38 : decode cL_isGroup 38 = .ok (.ifCond .le 15, 3) := by decide +kernel
theorem dL_isGroup_41 : decode cL_isGroup 41 = .ok (.iload 6, 2) := by decide +kernel
theorem dL_isGroup_43 : decode cL_isGroup 43 = .ok (.sipush 3001, 3) := by decide +kernel
theorem dL_isGroup_46 : decode cL_isGroup 46 = .ok (.if_icmp .ge 7, 3) := by decide +kernel
theorem dL_isGroup_49 : decode cL_isGroup 49 = .ok (.iconst 1, 1) := by decide +kernel
theorem dL_isGroup_50 : decode cL_isGroup 50 = .ok (.goto 4, 3) := by decide +kernel
theorem dL_isGroup_53 : decode cL_isGroup 53 = .ok (.iconst 0, 1) := by decide +kernel
theorem dL_isGroup_54 : decode cL_isGroup 54 = .ok (.istore 8, 2) := by decide +kernel
theorem dL_isGroup_56 : decode cL_isGroup 56 = .ok (.iload 7, 2) := by decide +kernel
theorem dL_isGroup_58 : decode cL_isGroup 58 = .ok (.ifCond .eq 8, 3) := by decide +kernel
theorem dL_isGroup_61 : decode cL_isGroup 61 = .ok (.iload 8, 2) := by decide +kernel
theorem dL_isGroup_63 : decode cL_isGroup 63 = .ok (.ifCond .ne 36, 3) := by decide +kernel
theorem dL_isGroup_66 : decode cL_isGroup 66 = .ok (.aload_n 0, 1) := by decide +kernel
theorem dL_isGroup_67 : decode cL_isGroup 67 = .ok (.iconst 5, 1) := by decide +kernel
theorem dL_isGroup_68 : decode cL_isGroup 68 = .ok (.iload_n 3, 1) := by decide +kernel
theorem dL_isGroup_69 : decode cL_isGroup 69 = .ok (.iload 4, 2) := by decide +kernel
theorem dL_isGroup_71 : decode cL_isGroup 71 = .ok (.iload 5, 2) := by decide +kernel
theorem dL_isGroup_73 : decode cL_isGroup 73 = .ok (.iload 6, 2) := by decide +kernel
theorem dL_isGroup_75 : decode cL_isGroup 75 = .ok (.invokestatic 113, 3) := by decide +kernel
theorem dL_isGroup_78 : decode cL_isGroup 78 = .ok (.iload 7, 2) := by decide +kernel
theorem dL_isGroup_80 : decode cL_isGroup 80 = .ok (.ifCond .eq 8, 3) := by decide +kernel
theorem dL_isGroup_83 : decode cL_isGroup 83 = .ok (.bipush (-20), 2) := by decide +kernel
theorem dL_isGroup_85 : decode cL_isGroup 85 = .ok (.goto 5, 3) := by decide +kernel
theorem dL_isGroup_88 : decode cL_isGroup 88 = .ok (.bipush (-30), 2) := by decide +kernel
theorem dL_isGroup_90 : decode cL_isGroup 90 = .ok (.if_icmp .ne 7, 3) := by decide +kernel
theorem dL_isGroup_93 : decode cL_isGroup 93 = .ok (.iconst 1, 1) := by decide +kernel
theorem dL_isGroup_94 : decode cL_isGroup 94 = .ok (.goto 4, 3) := by decide +kernel
theorem dL_isGroup_97 : decode cL_isGroup 97 = .ok (.iconst 0, 1) := by decide +kernel
theorem dL_isGroup_98 : decode cL_isGroup 98 = .ok (.ireturn, 1) := by decide +kernel
theorem dL_isGroup_99 : decode cL_isGroup 99 = .ok (.iconst 0, 1) := by decide +kernel
theorem dL_isGroup_100 : decode cL_isGroup 100 = .ok (.istore 9, 2) := by decide +kernel
theorem dL_isGroup_102 : decode cL_isGroup 102 = .ok (.iload_n 3, 1) := by decide +kernel
theorem dL_isGroup_103 : decode cL_isGroup 103 = .ok (.istore 10, 2) := by decide +kernel
theorem dL_isGroup_105 : decode cL_isGroup 105 = .ok (.iload 10, 2) := by decide +kernel
theorem dL_isGroup_107 : decode cL_isGroup 107 = .ok (.iload 4, 2) := by decide +kernel
theorem dL_isGroup_109 : decode cL_isGroup 109 = .ok (.if_icmp .gt 38, 3) := by decide +kernel
theorem dL_isGroup_112 : decode cL_isGroup 112 = .ok (.iload 9, 2) := by decide +kernel
theorem dL_isGroup_114 : decode cL_isGroup 114 = .ok (.ifCond .ne 20, 3) := by decide +kernel
theorem dL_isGroup_117 : decode cL_isGroup 117 = .ok (.aload_n 2, 1) := by decide +kernel
theorem dL_isGroup_118 : decode cL_isGroup 118 = .ok (.iload 10, 2) := by decide +kernel
theorem dL_isGroup_120 : decode cL_isGroup 120 = .ok (.iaload, 1) := by decide +kernel
theorem dL_isGroup_121 : decode cL_isGroup 121 = .ok (.aload_n 1, 1) := by decide +kernel
theorem dL_isGroup_122 : decode cL_isGroup 122 = .ok (.aload_n 2, 1) := by decide +kernel
theorem dL_isGroup_123 : decode cL_isGroup 123 = .ok (.iload 10, 2) := by decide +kernel
theorem dL_isGroup_125 : decode cL_isGroup 125 = .ok (.invokestatic 103, 3) := by decide +kernel
theorem dL_isGroup_128 : decode cL_isGroup 128 = .ok (.isub, 1) := by decide +kernel
theorem dL_isGroup_129 : decode cL_isGroup 129 = .ok (.iload 5, 2) := by decide +kernel
theorem dL_isGroup_131 : decode cL_isGroup 131 = .ok (.if_icmp .ge 7, 3) := by decide +kernel
theorem dL_isGroup_134 : decode cL_isGroup 134 = .ok (.iconst 1, 1) := by decide +kernel
theorem dL_isGroup_135 : decode cL_isGroup 135 = .ok (.goto 4, 3) := by decide +kernel
theorem dL_isGroup_138 : decode cL_isGroup 138 = .ok (.iconst 0, 1) := by decide +kernel
theorem dL_isGroup_139 : decode cL_isGroup 139 = .ok (.istore 9, 2) := by decide +kernel
theorem dL_isGroup_141 : decode cL_isGroup 141 = .ok (.iinc 10 1, 3) := by decide +kernel
theorem dL_isGroup_144 : decode cL_isGroup 144 = .ok (.goto (-39), 3) := by decide +kernel
theorem dL_isGroup_147 : decode cL_isGroup 147 = .ok (.aload_n 0, 1) := by decide +kernel
theorem dL_isGroup_148 : decode cL_isGroup 148 = .ok (.iload_n 3, 1) := by decide +kernel
theorem dL_isGroup_149 : decode cL_isGroup 149 = .ok (.iload 4, 2) := by decide +kernel
theorem dL_isGroup_151 : decode cL_isGroup 151 = .ok (.iload 5, 2) := by decide +kernel
theorem dL_isGroup_153 : decode cL_isGroup 153 = .ok (.invokevirtual 63, 3) := by decide +kernel
theorem dL_isGroup_156 : decode cL_isGroup 156 = .ok (.istore 10, 2) := by decide +kernel
theorem dL_isGroup_158 : decode cL_isGroup 158 = .ok (.aload_n 0, 1) := by decide +kernel
theorem dL_isGroup_159 : decode cL_isGroup 159 = .ok (.iconst 5, 1) := by decide +kernel
theorem dL_isGroup_160 : decode cL_isGroup 160 = .ok (.iload_n 3, 1) := by decide +kernel
theorem dL_isGroup_161 : decode cL_isGroup 161 = .ok (.iload 4, 2) := by decide +kernel
theorem dL_isGroup_163 : decode cL_isGroup 163 = .ok (.iload 5, 2) := by decide +kernel
theorem dL_isGroup_165 : decode cL_isGroup 165 = .ok (.iload 6, 2) := by decide +kernel
theorem dL_isGroup_167 : decode cL_isGroup 167 = .ok (.invokestatic 113, 3) := by decide +kernel
theorem dL_isGroup_170 : decode cL_isGroup 170 = .ok (.istore 11, 2) := by decide +kernel
theorem dL_isGroup_172 : decode cL_isGroup 172 = .ok (.iload 11, 2) := by decide +kernel
theorem dL_isGroup_174 : decode cL_isGroup 174 = .ok (.ifCond .ge 17, 3) := by decide +kernel
theorem dL_isGroup_177 : decode cL_isGroup 177 = .ok (.aload_n 2, 1) := by decide +kernel
theorem dL_isGroup_178 : decode cL_isGroup 178 = .ok (.bipush 6, 2) := by decide +kernel
theorem dL_isGroup_180 : decode cL_isGroup 180 = .ok (.iload 11, 2) := by decide +kernel
theorem dL_isGroup_182 : decode cL_isGroup 182 = .ok (.isub, 1) := by decide +kernel
theorem dL_isGroup_183 : decode cL_isGroup 183 = .ok (.dup2, 1) := by decide +kernel
theorem dL_isGroup_184 : decode cL_isGroup 184 = .ok (.iaload, 1) := by decide +kernel
theorem dL_isGroup_185 : decode cL_isGroup 185 = .ok (.iconst 1, 1) := by decide +kernel
theorem dL_isGroup_186 : decode cL_isGroup 186 = .ok (.iadd, 1) := by decide +kernel
theorem dL_isGroup_187 : decode cL_isGroup 187 = .ok (.iastore, 1) := by decide +kernel
theorem dL_isGroup_188 : decode cL_isGroup 188 = .ok (.goto 18, 3) := by decide +kernel
theorem dL_isGroup_191 : decode cL_isGroup 191 = .ok (.aload_n 1, 1) := by decide +kernel
theorem dL_isGroup_192 : decode cL_isGroup 192 = .ok (.aload_n 2, 1) := by decide +kernel
theorem dL_isGroup_193 : decode cL_isGroup 193 = .ok (.iload_n 3, 1) := by decide +kernel
theorem dL_isGroup_194 : decode cL_isGroup 194 = .ok (.iload 4, 2) := by decide +kernel
theorem dL_isGroup_196 : decode cL_isGroup 196 = .ok (.iload 5, 2) := by decide +kernel
theorem dL_isGroup_198 : decode cL_isGroup 198 = .ok (.iload 6, 2) := by decide +kernel
theorem dL_isGroup_200 : decode cL_isGroup 200 = .ok (.iload 5, 2) := by decide +kernel
theorem dL_isGroup_202 : decode cL_isGroup 202 = .ok (.imul, 1) := by decide +kernel
theorem dL_isGroup_203 : decode cL_isGroup 203 = .ok (.invokestatic 117, 3) := by decide +kernel
theorem dL_isGroup_206 : decode cL_isGroup 206 = .ok (.iload 9, 2) := by decide +kernel
theorem dL_isGroup_208 : decode cL_isGroup 208 = .ok (.ifCond .eq 23, 3) := by decide +kernel
theorem dL_isGroup_211 : decode cL_isGroup 211 = .ok (.iload 10, 2) := by decide +kernel
theorem dL_isGroup_213 : decode cL_isGroup 213 = .ok (.iconst (-1), 1) := by decide +kernel
theorem dL_isGroup_214 : decode cL_isGroup 214 = .ok (.if_icmp .ne 13, 3) := by decide +kernel
theorem dL_isGroup_217 : decode cL_isGroup 217 = .ok (.iload 11, 2) := by decide +kernel
theorem dL_isGroup_219 : decode cL_isGroup 219 = .ok (.iconst (-1), 1) := by decide +kernel
theorem dL_isGroup_220 : decode cL_isGroup 220 = .ok (.if_icmp .ne 7, 3) := by decide +kernel
theorem dL_isGroup_223 : decode cL_isGroup 223 = .ok (.iconst 1, 1) := by decide +kernel
theorem dL_isGroup_224 : decode cL_isGroup 224 = .ok (.goto 43, 3) := by decide +kernel
theorem dL_isGroup_227 : decode cL_isGroup 227 = .ok (.iconst 0, 1) := by decide +kernel
theorem dL_isGroup_228 : decode cL_isGroup 228 = .ok (.goto 39, 3) := by decide +kernel
theorem dL_isGroup_231 : decode cL_isGroup 231 = .ok (.iload 10, 2) := by decide +kernel
theorem dL_isGroup_233 : decode cL_isGroup 233 = .ok (.ifCond .lt 33, 3) := by decide +kernel
theorem dL_isGroup_236 : decode cL_isGroup 236 = .ok (.iload 11, 2) := by decide +kernel
