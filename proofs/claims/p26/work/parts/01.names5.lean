theorem dL_isAsked_102 : decode cL_isAsked 102 = .ok (.ifCond .ne 8, 3) := by decide +kernel
theorem dL_isAsked_105 : decode cL_isAsked 105 = .ok (.iload 11, 2) := by decide +kernel
theorem dL_isAsked_107 : decode cL_isAsked 107 = .ok (.ifCond .gt 7, 3) := by decide +kernel
theorem dL_isAsked_110 : decode cL_isAsked 110 = .ok (.iconst 1, 1) := by decide +kernel
theorem dL_isAsked_111 : decode cL_isAsked 111 = .ok (.goto 4, 3) := by decide +kernel
theorem dL_isAsked_114 : decode cL_isAsked 114 = .ok (.iconst 0, 1) := by decide +kernel
theorem dL_isAsked_115 : decode cL_isAsked 115 = .ok (.istore 8, 2) := by decide +kernel
theorem dL_isAsked_117 : decode cL_isAsked 117 = .ok (.iload 9, 2) := by decide +kernel
theorem dL_isAsked_119 : decode cL_isAsked 119 = .ok (.ifCond .ne 23, 3) := by decide +kernel
theorem dL_isAsked_122 : decode cL_isAsked 122 = .ok (.iload 11, 2) := by decide +kernel
theorem dL_isAsked_124 : decode cL_isAsked 124 = .ok (.aload_n 1, 1) := by decide +kernel
theorem dL_isAsked_125 : decode cL_isAsked 125 = .ok (.aload_n 2, 1) := by decide +kernel
theorem dL_isAsked_126 : decode cL_isAsked 126 = .ok (.aload 4, 2) := by decide +kernel
theorem dL_isAsked_128 : decode cL_isAsked 128 = .ok (.iload 10, 2) := by decide +kernel
theorem dL_isAsked_130 : decode cL_isAsked 130 = .ok (.aload_n 1, 1) := by decide +kernel
theorem dL_isAsked_131 : decode cL_isAsked 131 = .ok (.iload 6, 2) := by decide +kernel
theorem dL_isAsked_133 : decode cL_isAsked 133 = .ok (.iconst 2, 1) := by decide +kernel
theorem dL_isAsked_134 : decode cL_isAsked 134 = .ok (.iadd, 1) := by decide +kernel
theorem dL_isAsked_135 : decode cL_isAsked 135 = .ok (.iaload, 1) := by decide +kernel
theorem dL_isAsked_136 : decode cL_isAsked 136 = .ok (.invokestatic 109, 3) := by decide +kernel
theorem dL_isAsked_139 : decode cL_isAsked 139 = .ok (.if_icmp .gt 7, 3) := by decide +kernel
theorem dL_isAsked_142 : decode cL_isAsked 142 = .ok (.iconst 1, 1) := by decide +kernel
theorem dL_isAsked_143 : decode cL_isAsked 143 = .ok (.goto 4, 3) := by decide +kernel
theorem dL_isAsked_146 : decode cL_isAsked 146 = .ok (.iconst 0, 1) := by decide +kernel
theorem dL_isAsked_147 : decode cL_isAsked 147 = .ok (.istore 9, 2) := by decide +kernel
theorem dL_isAsked_149 : decode cL_isAsked 149 = .ok (.iinc 10 1, 3) := by decide +kernel
theorem dL_isAsked_152 : decode cL_isAsked 152 = .ok (.goto (-81), 3) := by decide +kernel
theorem dL_isAsked_155 : decode cL_isAsked 155 = .ok (.iload 7, 2) := by decide +kernel
theorem dL_isAsked_157 : decode cL_isAsked 157 = .ok (.ifCond .ge 99, 3) := by decide +kernel
theorem dL_isAsked_160 : decode cL_isAsked 160 = .ok (.iconst 0, 1) := by decide +kernel
theorem dL_isAsked_161 : decode cL_isAsked 161 = .ok (.istore 10, 2) := by decide +kernel
theorem dL_isAsked_163 : decode cL_isAsked 163 = .ok (.aload_n 1, 1) := by decide +kernel
theorem dL_isAsked_164 : decode cL_isAsked 164 = .ok (.iload 6, 2) := by decide +kernel
theorem dL_isAsked_166 : decode cL_isAsked 166 = .ok (.iaload, 1) := by decide +kernel
theorem dL_isAsked_167 : decode cL_isAsked 167 = .ok (.istore 11, 2) := by decide +kernel
theorem dL_isAsked_169 : decode cL_isAsked 169 = .ok (.iload 11, 2) := by decide +kernel
theorem dL_isAsked_171 : decode cL_isAsked 171 = .ok (.aload_n 1, 1) := by decide +kernel
theorem dL_isAsked_172 : decode cL_isAsked 172 = .ok (.iload 6, 2) := by decide +kernel
theorem dL_isAsked_174 : decode cL_isAsked 174 = .ok (.iconst 1, 1) := by decide +kernel
theorem dL_isAsked_175 : decode cL_isAsked 175 = .ok (.iadd, 1) := by decide +kernel
theorem dL_isAsked_176 : decode cL_isAsked 176 = .ok (.iaload, 1) := by decide +kernel
theorem dL_isAsked_177 : decode cL_isAsked 177 = .ok (.if_icmp .gt 20, 3) := by decide +kernel
theorem dL_isAsked_180 : decode cL_isAsked 180 = .ok (.iload 10, 2) := by decide +kernel
theorem dL_isAsked_182 : decode cL_isAsked 182 = .ok (.aload_n 0, 1) := by decide +kernel
theorem dL_isAsked_183 : decode cL_isAsked 183 = .ok (.iload 11, 2) := by decide +kernel
theorem dL_isAsked_185 : decode cL_isAsked 185 = .ok (.invokevirtual 60, 3) := by decide +kernel
theorem dL_isAsked_188 : decode cL_isAsked 188 = .ok (.iadd, 1) := by decide +kernel
theorem dL_isAsked_189 : decode cL_isAsked 189 = .ok (.istore 10, 2) := by decide +kernel
theorem dL_isAsked_191 : decode cL_isAsked 191 = .ok (.iinc 11 1, 3) := by decide +kernel
theorem dL_isAsked_194 : decode cL_isAsked 194 = .ok (.goto (-25), 3) := by decide +kernel
theorem dL_isAsked_197 : decode cL_isAsked 197 = .ok (.aload 4, 2) := by decide +kernel
theorem dL_isAsked_199 : decode cL_isAsked 199 = .ok (.bipush 6, 2) := by decide +kernel
theorem dL_isAsked_201 : decode cL_isAsked 201 = .ok (.iload 7, 2) := by decide +kernel
theorem dL_isAsked_203 : decode cL_isAsked 203 = .ok (.isub, 1) := by decide +kernel
theorem dL_isAsked_204 : decode cL_isAsked 204 = .ok (.dup2, 1) := by decide +kernel
theorem dL_isAsked_205 : decode cL_isAsked 205 = .ok (.iaload, 1) := by decide +kernel
theorem dL_isAsked_206 : decode cL_isAsked 206 = .ok (.iconst 1, 1) := by decide +kernel
theorem dL_isAsked_207 : decode cL_isAsked 207 = .ok (.iadd, 1) := by decide +kernel
theorem dL_isAsked_208 : decode cL_isAsked 208 = .ok (.iastore, 1) := by decide +kernel
theorem dL_isAsked_209 : decode cL_isAsked 209 = .ok (.iload 7, 2) := by decide +kernel
theorem dL_isAsked_211 : decode cL_isAsked 211 = .ok (.iload 8, 2) := by decide +kernel
theorem dL_isAsked_213 : decode cL_isAsked 213 = .ok (.ifCond .eq 7, 3) := by decide +kernel
theorem dL_isAsked_216 : decode cL_isAsked 216 = .ok (.iconst (-1), 1) := by decide +kernel
theorem dL_isAsked_217 : decode cL_isAsked 217 = .ok (.goto 30, 3) := by decide +kernel
theorem dL_isAsked_220 : decode cL_isAsked 220 = .ok (.iload 9, 2) := by decide +kernel
theorem dL_isAsked_222 : decode cL_isAsked 222 = .ok (.ifCond .eq 8, 3) := by decide +kernel
theorem dL_isAsked_225 : decode cL_isAsked 225 = .ok (.bipush (-2), 2) := by decide +kernel
theorem dL_isAsked_227 : decode cL_isAsked 227 = .ok (.goto 20, 3) := by decide +kernel
theorem dL_isAsked_230 : decode cL_isAsked 230 = .ok (.iload 10, 2) := by decide +kernel
theorem dL_isAsked_232 : decode cL_isAsked 232 = .ok (.aload_n 1, 1) := by decide +kernel
theorem dL_isAsked_233 : decode cL_isAsked 233 = .ok (.iload 6, 2) := by decide +kernel
theorem dL_isAsked_235 : decode cL_isAsked 235 = .ok (.iconst 2, 1) := by decide +kernel
theorem dL_isAsked_236 : decode cL_isAsked 236 = .ok (.iadd, 1) := by decide +kernel
theorem dL_isAsked_237 : decode cL_isAsked 237 = .ok (.iaload, 1) := by decide +kernel
theorem dL_isAsked_238 : decode cL_isAsked 238 = .ok (.if_icmp .le 8, 3) := by decide +kernel
theorem dL_isAsked_241 : decode cL_isAsked 241 = .ok (.bipush (-3), 2) := by decide +kernel
theorem dL_isAsked_243 : decode cL_isAsked 243 = .ok (.goto 4, 3) := by decide +kernel
theorem dL_isAsked_246 : decode cL_isAsked 246 = .ok (.iconst 0, 1) := by decide +kernel
theorem dL_isAsked_247 : decode cL_isAsked 247 = .ok (.if_icmp .ne 7, 3) := by decide +kernel
theorem dL_isAsked_250 : decode cL_isAsked 250 = .ok (.iconst 1, 1) := by decide +kernel
theorem dL_isAsked_251 : decode cL_isAsked 251 = .ok (.goto 4, 3) := by decide +kernel
theorem dL_isAsked_254 : decode cL_isAsked 254 = .ok (.iconst 0, 1) := by decide +kernel
theorem dL_isAsked_255 : decode cL_isAsked 255 = .ok (.ireturn, 1) := by decide +kernel
theorem dL_isAsked_256 : decode cL_isAsked 256 = .ok (.iload 8, 2) := by decide +kernel
theorem dL_isAsked_258 : decode cL_isAsked 258 = .ok (.ifCond .ne 22, 3) := by decide +kernel
theorem dL_isAsked_261 : decode cL_isAsked 261 = .ok (.iload 9, 2) := by decide +kernel
theorem dL_isAsked_263 : decode cL_isAsked 263 = .ok (.ifCond .ne 17, 3) := by decide +kernel
theorem dL_isAsked_266 : decode cL_isAsked 266 = .ok (.iload 7, 2) := by decide +kernel
theorem dL_isAsked_268 : decode cL_isAsked 268 = .ok (.aload 4, 2) := by decide +kernel
theorem dL_isAsked_270 : decode cL_isAsked 270 = .ok (.bipush 6, 2) := by decide +kernel
theorem dL_isAsked_272 : decode cL_isAsked 272 = .ok (.iaload, 1) := by decide +kernel
theorem dL_isAsked_273 : decode cL_isAsked 273 = .ok (.if_icmp .ne 7, 3) := by decide +kernel
theorem dL_isAsked_276 : decode cL_isAsked 276 = .ok (.iconst 1, 1) := by decide +kernel
theorem dL_isAsked_277 : decode cL_isAsked 277 = .ok (.goto 4, 3) := by decide +kernel
theorem dL_isAsked_280 : decode cL_isAsked 280 = .ok (.iconst 0, 1) := by decide +kernel
theorem dL_isAsked_281 : decode cL_isAsked 281 = .ok (.istore 10, 2) := by decide +kernel
theorem dL_isAsked_283 : decode cL_isAsked 283 = .ok (.aload_n 3, 1) := by decide +kernel
theorem dL_isAsked_284 : decode cL_isAsked 284 = .ok (.aload 4, 2) := by decide +kernel
theorem dL_isAsked_286 : decode cL_isAsked 286 = .ok (.aload_n 1, 1) := by decide +kernel
theorem dL_isAsked_287 : decode cL_isAsked 287 = .ok (.iload 6, 2) := by decide +kernel
theorem dL_isAsked_289 : decode cL_isAsked 289 = .ok (.iaload, 1) := by decide +kernel
theorem dL_isAsked_290 : decode cL_isAsked 290 = .ok (.aload_n 1, 1) := by decide +kernel
theorem dL_isAsked_291 : decode cL_isAsked 291 = .ok (.iload 6, 2) := by decide +kernel
theorem dL_isAsked_293 : decode cL_isAsked 293 = .ok (.iconst 1, 1) := by decide +kernel
theorem dL_isAsked_294 : decode cL_isAsked 294 = .ok (.iadd, 1) := by decide +kernel
theorem dL_isAsked_295 : decode cL_isAsked 295 = .ok (.iaload, 1) := by decide +kernel
theorem dL_isAsked_296 : decode cL_isAsked 296 = .ok (.iconst 1, 1) := by decide +kernel
theorem dL_isAsked_297 : decode cL_isAsked 297 = .ok (.aload_n 1, 1) := by decide +kernel
theorem dL_isAsked_298 : decode cL_isAsked 298 = .ok (.iload 6, 2) := by decide +kernel
theorem dL_isAsked_300 : decode cL_isAsked 300 = .ok (.iconst 2, 1) := by decide +kernel
theorem dL_isAsked_301 : decode cL_isAsked 301 = .ok (.iadd, 1) := by decide +kernel
theorem dL_isAsked_302 : decode cL_isAsked 302 = .ok (.iaload, 1) := by decide +kernel
theorem dL_isAsked_303 : decode cL_isAsked 303 = .ok (.invokestatic 117, 3) := by decide +kernel
theorem dL_isAsked_306 : decode cL_isAsked 306 = .ok (.iload 10, 2) := by decide +kernel
theorem dL_isAsked_308 : decode cL_isAsked 308 = .ok (.ireturn, 1) := by decide +kernel
set_option maxRecDepth 20000 in
theorem ggL_isGroup_L_does : GoodIn wsL_isGroup wsL_does := goodIn_ca (goodIn_ca (goodIn_ca (goodIn_r _ [4, 5, 6, 7, 8, 9, 3, 10, 11, 12, 13, 14, 15, 16, 17, 18, 19, 20, 21, 22, 23, 24, 25, 26, 27, 28, 29, 30, 31, 32, 33, 34, 35, 36, 37, 38, 39, 40, 41, 42, 43, 44, 45, 46, 47, 48, 49, 50, 51, 52, 53, 54, 55, 56, 57, 58, 59, 60, 61, 62, 63, 64, 65, 66, 67, 68, 69, 70, 71, 72, 73, 74, 75, 76, 77, 78, 79, 80, 81, 82, 83, 84, 85, 86, 87, 88, 89, 90, 91, 92, 93, 94, 95, 96, 97, 98, 99, 100, 101, 102, 103, 104, 105, 106, 107, 108, 109, 110, 111, 112, 113, 114, 115, 116, 117, 118, 119, 120, 121, 122, 123, 124, 125, 126, 127, 128, 129, 130, 131, 132, 133, 134, 135, 136, 137, 138, 139, 140, 141, 142, 143, 144, 145, 146, 147, 148, 149, 150, 151, 152, 153, 154, 155, 156, 157, 158, 159, 160, 161, 162, 163, 164, 165, 166, 167, 168, 169, 170, 171, 172, 173, 174, 175, 176, 177, 178, 179, 180, 181, 182, 183, 184, 185, 186, 187, 188, 189, 190, 191, 192, 193, 194, 195, 196, 197, 198, 199, 200, 201, 202, 203, 204, 205, 206, 207, 208, 209, 210, 211, 212, 213, 214, 215, 216, 217, 218, 219, 220, 221, 222, 223, 224, 225, 226, 227, 228, 229, 230, 231, 232, 233, 234, 235, 236, 237, 238, 239, 240, 241, 252, 253, 254, 255, 256, 257, 258, 259, 260, 261, 262, 263, 264, 265, 266, 267, 268, 269, 270, 271, 272, 273, 274, 275, 276, 277, 278, 279, 280, 281, 282, 283, 284, 285] (by decide +kernel) (by decide +kernel)) (goodIn_sub (fun _ h => List.mem_cons_of_mem _ (List.mem_append_left _ (List.mem_append_left _ (List.mem_append_right _ h)))) (by decide +kernel))) (goodIn_sub (fun _ h => List.mem_cons_of_mem _ (List.mem_append_left _ (List.mem_append_right _ h))) (by decide +kernel))) (goodIn_sub (fun _ h => List.mem_cons_of_mem _ (List.mem_append_right _ h)) (by decide +kernel))
set_option maxRecDepth 20000 in
theorem gL_isGroup_L_does : GoodIn wsL_isGroup (va_wsS RL 113 yL_does wsL_does) := goodIn_app (goodIn_of _ (by decide +kernel)) ggL_isGroup_L_does
set_option maxRecDepth 20000 in
theorem ggL_isGroup_L_booked : GoodIn wsL_isGroup wsL_booked := goodIn_r _ [244] (by decide +kernel) (by decide +kernel)
set_option maxRecDepth 20000 in
theorem gL_isGroup_L_booked : GoodIn wsL_isGroup (va_wsS RL 103 yL_booked wsL_booked) := goodIn_app (goodIn_of _ (by decide +kernel)) ggL_isGroup_L_booked
set_option maxRecDepth 20000 in
theorem ggL_isGroup_X5_displaced : GoodIn wsL_isGroup wsX5_displaced := goodIn_ca (goodIn_ca (goodIn_r _ [248, 30, 31, 16, 17, 39, 40, 14, 41, 18, 19, 20, 209, 210, 211, 212, 174, 175, 176, 177, 178, 165, 166, 167, 110, 111, 112, 113, 25, 90, 91, 92, 93, 82, 94, 95, 96, 97, 98, 99, 85, 100, 101, 102, 103, 104, 105, 213, 214, 215, 216, 139, 140, 141, 142, 143, 64, 144, 145, 146, 147, 148, 149, 150, 151, 152, 153, 154, 155, 156, 157, 158, 159, 160, 161, 37, 162, 163, 54, 55, 164, 168, 169, 170, 171, 172, 173, 179, 180, 181, 182, 183, 184, 185, 186, 187, 188, 189, 190, 191, 192, 193, 194, 195, 196, 252, 253, 254, 255, 256, 257, 258, 259, 260, 261, 262, 263, 264, 265, 273, 274, 275, 276, 277, 278, 279, 280, 281, 282, 283, 284, 285, 266, 267, 268, 269, 270, 271, 272] (by decide +kernel) (by decide +kernel)) (goodIn_sub (fun _ h => List.mem_cons_of_mem _ (List.mem_append_left _ (List.mem_append_right _ h))) (by decide +kernel))) (goodIn_sub (fun _ h => List.mem_cons_of_mem _ (List.mem_append_left _ (List.mem_append_left _ (List.mem_append_right _ h)))) (by decide +kernel))
set_option maxRecDepth 20000 in
theorem gL_isGroup_X5_displaced : GoodIn wsL_isGroup (wsV RL 63 RX5 yX5_displaced wsX5_displaced) := goodIn_app (goodIn_of _ (by decide +kernel)) ggL_isGroup_X5_displaced
set_option maxRecDepth 20000 in
theorem ggL_isGroup_L_books : GoodIn wsL_isGroup wsL_books := goodIn_r _ [251] (by decide +kernel) (by decide +kernel)
set_option maxRecDepth 20000 in
theorem gL_isGroup_L_books : GoodIn wsL_isGroup (va_wsS RL 117 yL_books wsL_books) := goodIn_app (goodIn_of _ (by decide +kernel)) ggL_isGroup_L_books
theorem dL_isGroup_0 : decode cL_isGroup 0 = .ok (.iload_n 3, 1) := by decide +kernel
theorem dL_isGroup_1 : decode cL_isGroup 1 = .ok (.iconst 3, 1) := by decide +kernel
theorem dL_isGroup_2 : decode cL_isGroup 2 = .ok (.if_icmp .ge 13, 3) := by decide +kernel
theorem dL_isGroup_5 : decode cL_isGroup 5 = .ok (.iload 4, 2) := by decide +kernel
theorem dL_isGroup_7 : decode cL_isGroup 7 = .ok (.iconst 3, 1) := by decide +kernel
theorem dL_isGroup_8 : decode cL_isGroup 8 = .ok (.if_icmp .ge 7, 3) := by decide +kernel
theorem dL_isGroup_11 : decode cL_isGroup 11 = .ok (.iconst 1, 1) := by decide +kernel
theorem dL_isGroup_12 : decode cL_isGroup 12 = .ok (.goto 4, 3) := by decide +kernel
theorem dL_isGroup_15 : decode cL_isGroup 15 = .ok (.iconst 0, 1) := by decide +kernel
theorem dL_isGroup_16 : decode cL_isGroup 16 = .ok (.istore 7, 2) := by decide +kernel
theorem dL_isGroup_18 : decode cL_isGroup 18 = .ok (.iload 4, 2) := by decide +kernel
theorem dL_isGroup_20 : decode cL_isGroup 20 = .ok (.iload_n 3, 1) := by decide +kernel
theorem dL_isGroup_21 : decode cL_isGroup 21 = .ok (.if_icmp .lt 32, 3) := by decide +kernel
theorem dL_isGroup_24 : decode cL_isGroup 24 = .ok (.iload 5, 2) := by decide +kernel
theorem dL_isGroup_26 : decode cL_isGroup 26 = .ok (.ifCond .le 27, 3) := by decide +kernel
theorem dL_isGroup_29 : decode cL_isGroup 29 = .ok (.iload 5, 2) := by decide +kernel
theorem dL_isGroup_31 : decode cL_isGroup 31 = .ok (.bipush 11, 2) := by decide +kernel
theorem dL_isGroup_33 : decode cL_isGroup 33 = .ok (.if_icmp .ge 20, 3) := by decide +kernel
theorem dL_isGroup_36 : decode cL_isGroup 36 = .ok (.iload 6, 2) := by decide +kernel
theorem dL_isGroup_38 : decode cL_isGroup 38 = .ok (.ifCond .le 15, 3) := by decide +kernel
theorem dL_isGroup_41 : decode cL_isGroup 41 = .ok (.iload 6, 2) := by decide +kernel
theorem dL_isGroup_43 : decode cL_isGroup 43 = .ok (.sipush 3001, 3) := by decide +kernel
theorem dL_isGroup_46 : decode cL_isGroup 46 = .ok (.if_icmp .ge 7, 3) := by decide +kernel
theorem dL_isGroup_49 : decode cL_isGroup 49 = .ok (.iconst 1, 1) := by decide +kernel
theorem dL_isGroup_50 : decode cL_isGroup 50 = .ok (.goto 4, 3) := by decide +kernel
theorem dL_isGroup_53 : decode cL_isGroup 53 = .ok (.iconst 0, 1) := by decide +kernel
theorem dL_isGroup_54 : decode cL_isGroup 54 = .ok (.istore 8, 2) := by decide +kernel
theorem dL_isGroup_56 : decode cL_isGroup 56 = .ok (.iload 7, 2) := by decide +kernel
theorem dL_isGroup_58 : decode cL_isGroup 58 = .ok (.ifCond .eq 8, 3) := by decide +kernel
theorem dL_isGroup_61 : decode cL_isGroup 61 = .ok (.iload 8, 2) := by decide +kernel
theorem dL_isGroup_63 : decode cL_isGroup 63 = .ok (.ifCond .ne 36, 3) := by decide +kernel
theorem dL_isGroup_66 : decode cL_isGroup 66 = .ok (.aload_n 0, 1) := by decide +kernel
theorem dL_isGroup_67 : decode cL_isGroup 67 = .ok (.iconst 5, 1) := by decide +kernel
theorem dL_isGroup_68 : decode cL_isGroup 68 = .ok (.iload_n 3, 1) := by decide +kernel
theorem dL_isGroup_69 : decode cL_isGroup 69 = .ok (.iload 4, 2) := by decide +kernel
theorem dL_isGroup_71 : decode cL_isGroup 71 = .ok (.iload 5, 2) := by decide +kernel
theorem dL_isGroup_73 : decode cL_isGroup 73 = .ok (.iload 6, 2) := by decide +kernel
theorem dL_isGroup_75 : decode cL_isGroup 75 = .ok (.invokestatic 113, 3) := by decide +kernel
theorem dL_isGroup_78 : decode cL_isGroup 78 = .ok (.iload 7, 2) := by decide +kernel
theorem dL_isGroup_80 : decode cL_isGroup 80 = .ok (.ifCond .eq 8, 3) := by decide +kernel
theorem dL_isGroup_83 : decode cL_isGroup 83 = .ok (.bipush (-20), 2) := by decide +kernel
theorem dL_isGroup_85 : decode cL_isGroup 85 = .ok (.goto 5, 3) := by decide +kernel
theorem dL_isGroup_88 : decode cL_isGroup 88 = .ok (.bipush (-30), 2) := by decide +kernel
theorem dL_isGroup_90 : decode cL_isGroup 90 = .ok (.if_icmp .ne 7, 3) := by decide +kernel
theorem dL_isGroup_93 : decode cL_isGroup 93 = .ok (.iconst 1, 1) := by decide +kernel
theorem dL_isGroup_94 : decode cL_isGroup 94 = .ok (.goto 4, 3) := by decide +kernel
theorem dL_isGroup_97 : decode cL_isGroup 97 = .ok (.iconst 0, 1) := by decide +kernel
theorem dL_isGroup_98 : decode cL_isGroup 98 = .ok (.ireturn, 1) := by decide +kernel
theorem dL_isGroup_99 : decode cL_isGroup 99 = .ok (.iconst 0, 1) := by decide +kernel
theorem dL_isGroup_100 : decode cL_isGroup 100 = .ok (.istore 9, 2) := by decide +kernel
theorem dL_isGroup_102 : decode cL_isGroup 102 = .ok (.iload_n 3, 1) := by decide +kernel
theorem dL_isGroup_103 : decode cL_isGroup 103 = .ok (.istore 10, 2) := by decide +kernel
theorem dL_isGroup_105 : decode cL_isGroup 105 = .ok (.iload 10, 2) := by decide +kernel
theorem dL_isGroup_107 : decode cL_isGroup 107 = .ok (.iload 4, 2) := by decide +kernel
theorem dL_isGroup_109 : decode cL_isGroup 109 = .ok (.if_icmp .gt 38, 3) := by decide +kernel
theorem dL_isGroup_112 : decode cL_isGroup 112 = .ok (.iload 9, 2) := by decide +kernel
theorem dL_isGroup_114 : decode cL_isGroup 114 = .ok (.ifCond .ne 20, 3) := by decide +kernel
theorem dL_isGroup_117 : decode cL_isGroup 117 = .ok (.aload_n 2, 1) := by decide +kernel
theorem dL_isGroup_118 : decode cL_isGroup 118 = .ok (.iload 10, 2) := by decide +kernel
theorem dL_isGroup_120 : decode cL_isGroup 120 = .ok (.iaload, 1) := by decide +kernel
theorem dL_isGroup_121 : decode cL_isGroup 121 = .ok (.aload_n 1, 1) := by decide +kernel
theorem dL_isGroup_122 : decode cL_isGroup 122 = .ok (.aload_n 2, 1) := by decide +kernel
theorem dL_isGroup_123 : decode cL_isGroup 123 = .ok (.iload 10, 2) := by decide +kernel
theorem dL_isGroup_125 : decode cL_isGroup 125 = .ok (.invokestatic 103, 3) := by decide +kernel
theorem dL_isGroup_128 : decode cL_isGroup 128 = .ok (.isub, 1) := by decide +kernel
theorem dL_isGroup_129 : decode cL_isGroup 129 = .ok (.iload 5, 2) := by decide +kernel
theorem dL_isGroup_131 : decode cL_isGroup 131 = .ok (.if_icmp .ge 7, 3) := by decide +kernel
theorem dL_isGroup_134 : decode cL_isGroup 134 = .ok (.iconst 1, 1) := by decide +kernel
theorem dL_isGroup_135 : decode cL_isGroup 135 = .ok (.goto 4, 3) := by decide +kernel
theorem dL_isGroup_138 : decode cL_isGroup 138 = .ok (.iconst 0, 1) := by decide +kernel
theorem dL_isGroup_139 : decode cL_isGroup 139 = .ok (.istore 9, 2) := by decide +kernel
theorem dL_isGroup_141 : decode cL_isGroup 141 = .ok (.iinc 10 1, 3) := by decide +kernel
theorem dL_isGroup_144 : decode cL_isGroup 144 = .ok (.goto (-39), 3) := by decide +kernel
theorem dL_isGroup_147 : decode cL_isGroup 147 = .ok (.aload_n 0, 1) := by decide +kernel
theorem dL_isGroup_148 : decode cL_isGroup 148 = .ok (.iload_n 3, 1) := by decide +kernel
theorem dL_isGroup_149 : decode cL_isGroup 149 = .ok (.iload 4, 2) := by decide +kernel
theorem dL_isGroup_151 : decode cL_isGroup 151 = .ok (.iload 5, 2) := by decide +kernel
theorem dL_isGroup_153 : decode cL_isGroup 153 = .ok (.invokevirtual 63, 3) := by decide +kernel
theorem dL_isGroup_156 : decode cL_isGroup 156 = .ok (.istore 10, 2) := by decide +kernel
theorem dL_isGroup_158 : decode cL_isGroup 158 = .ok (.aload_n 0, 1) := by decide +kernel
theorem dL_isGroup_159 : decode cL_isGroup 159 = .ok (.iconst 5, 1) := by decide +kernel
theorem dL_isGroup_160 : decode cL_isGroup 160 = .ok (.iload_n 3, 1) := by decide +kernel
theorem dL_isGroup_161 : decode cL_isGroup 161 = .ok (.iload 4, 2) := by decide +kernel
theorem dL_isGroup_163 : decode cL_isGroup 163 = .ok (.iload 5, 2) := by decide +kernel
theorem dL_isGroup_165 : decode cL_isGroup 165 = .ok (.iload 6, 2) := by decide +kernel
theorem dL_isGroup_167 : decode cL_isGroup 167 = .ok (.invokestatic 113, 3) := by decide +kernel
theorem dL_isGroup_170 : decode cL_isGroup 170 = .ok (.istore 11, 2) := by decide +kernel
theorem dL_isGroup_172 : decode cL_isGroup 172 = .ok (.iload 11, 2) := by decide +kernel
theorem dL_isGroup_174 : decode cL_isGroup 174 = .ok (.ifCond .ge 17, 3) := by decide +kernel
theorem dL_isGroup_177 : decode cL_isGroup 177 = .ok (.aload_n 2, 1) := by decide +kernel
theorem dL_isGroup_178 : decode cL_isGroup 178 = .ok (.bipush 6, 2) := by decide +kernel
theorem dL_isGroup_180 : decode cL_isGroup 180 = .ok (.iload 11, 2) := by decide +kernel
theorem dL_isGroup_182 : decode cL_isGroup 182 = .ok (.isub, 1) := by decide +kernel
theorem dL_isGroup_183 : decode cL_isGroup 183 = .ok (.dup2, 1) := by decide +kernel
theorem dL_isGroup_184 : decode cL_isGroup 184 = .ok (.iaload, 1) := by decide +kernel
theorem dL_isGroup_185 : decode cL_isGroup 185 = .ok (.iconst 1, 1) := by decide +kernel
theorem dL_isGroup_186 : decode cL_isGroup 186 = .ok (.iadd, 1) := by decide +kernel
theorem dL_isGroup_187 : decode cL_isGroup 187 = .ok (.iastore, 1) := by decide +kernel
theorem dL_isGroup_188 : decode cL_isGroup 188 = .ok (.goto 18, 3) := by decide +kernel
theorem dL_isGroup_191 : decode cL_isGroup 191 = .ok (.aload_n 1, 1) := by decide +kernel
theorem dL_isGroup_192 : decode cL_isGroup 192 = .ok (.aload_n 2, 1) := by decide +kernel
theorem dL_isGroup_193 : decode cL_isGroup 193 = .ok (.iload_n 3, 1) := by decide +kernel
theorem dL_isGroup_194 : decode cL_isGroup 194 = .ok (.iload 4, 2) := by decide +kernel
theorem dL_isGroup_196 : decode cL_isGroup 196 = .ok (.iload 5, 2) := by decide +kernel
theorem dL_isGroup_198 : decode cL_isGroup 198 = .ok (.iload 6, 2) := by decide +kernel
theorem dL_isGroup_200 : decode cL_isGroup 200 = .ok (.iload 5, 2) := by decide +kernel
theorem dL_isGroup_202 : decode cL_isGroup 202 = .ok (.imul, 1) := by decide +kernel
theorem dL_isGroup_203 : decode cL_isGroup 203 = .ok (.invokestatic 117, 3) := by decide +kernel
theorem dL_isGroup_206 : decode cL_isGroup 206 = .ok (.iload 9, 2) := by decide +kernel
theorem dL_isGroup_208 : decode cL_isGroup 208 = .ok (.ifCond .eq 23, 3) := by decide +kernel
theorem dL_isGroup_211 : decode cL_isGroup 211 = .ok (.iload 10, 2) := by decide +kernel
theorem dL_isGroup_213 : decode cL_isGroup 213 = .ok (.iconst (-1), 1) := by decide +kernel
theorem dL_isGroup_214 : decode cL_isGroup 214 = .ok (.if_icmp .ne 13, 3) := by decide +kernel
theorem dL_isGroup_217 : decode cL_isGroup 217 = .ok (.iload 11, 2) := by decide +kernel
theorem dL_isGroup_219 : decode cL_isGroup 219 = .ok (.iconst (-1), 1) := by decide +kernel
theorem dL_isGroup_220 : decode cL_isGroup 220 = .ok (.if_icmp .ne 7, 3) := by decide +kernel
theorem dL_isGroup_223 : decode cL_isGroup 223 = .ok (.iconst 1, 1) := by decide +kernel
theorem dL_isGroup_224 : decode cL_isGroup 224 = .ok (.goto 43, 3) := by decide +kernel
theorem dL_isGroup_227 : decode cL_isGroup 227 = .ok (.iconst 0, 1) := by decide +kernel
theorem dL_isGroup_228 : decode cL_isGroup 228 = .ok (.goto 39, 3) := by decide +kernel
theorem dL_isGroup_231 : decode cL_isGroup 231 = .ok (.iload 10, 2) := by decide +kernel
theorem dL_isGroup_233 : decode cL_isGroup 233 = .ok (.ifCond .lt 33, 3) := by decide +kernel
theorem dL_isGroup_236 : decode cL_isGroup 236 = .ok (.iload 11, 2) := by decide +kernel
theorem dL_isGroup_238 : decode cL_isGroup 238 = .ok (.iload 6, 2) := by decide +kernel
theorem dL_isGroup_240 : decode cL_isGroup 240 = .ok (.iload 5, 2) := by decide +kernel
theorem dL_isGroup_242 : decode cL_isGroup 242 = .ok (.imul, 1) := by decide +kernel
theorem dL_isGroup_243 : decode cL_isGroup 243 = .ok (.iload 10, 2) := by decide +kernel
theorem dL_isGroup_245 : decode cL_isGroup 245 = .ok (.if_icmp .ge 8, 3) := by decide +kernel
theorem dL_isGroup_248 : decode cL_isGroup 248 = .ok (.bipush (-3), 2) := by decide +kernel
theorem dL_isGroup_250 : decode cL_isGroup 250 = .ok (.goto 9, 3) := by decide +kernel
theorem dL_isGroup_253 : decode cL_isGroup 253 = .ok (.aload_n 2, 1) := by decide +kernel
theorem dL_isGroup_254 : decode cL_isGroup 254 = .ok (.bipush 6, 2) := by decide +kernel
theorem dL_isGroup_256 : decode cL_isGroup 256 = .ok (.iaload, 1) := by decide +kernel
theorem dL_isGroup_257 : decode cL_isGroup 257 = .ok (.iconst 1, 1) := by decide +kernel
theorem dL_isGroup_258 : decode cL_isGroup 258 = .ok (.isub, 1) := by decide +kernel
theorem dL_isGroup_259 : decode cL_isGroup 259 = .ok (.if_icmp .ne 7, 3) := by decide +kernel
theorem dL_isGroup_262 : decode cL_isGroup 262 = .ok (.iconst 1, 1) := by decide +kernel
theorem dL_isGroup_263 : decode cL_isGroup 263 = .ok (.goto 4, 3) := by decide +kernel
theorem dL_isGroup_266 : decode cL_isGroup 266 = .ok (.iconst 0, 1) := by decide +kernel
theorem dL_isGroup_267 : decode cL_isGroup 267 = .ok (.ireturn, 1) := by decide +kernel
set_option maxRecDepth 20000 in
theorem ggL_isEnd_L_booked : GoodIn wsL_isEnd wsL_booked := goodIn_r _ [4] (by decide +kernel) (by decide +kernel)
set_option maxRecDepth 20000 in
theorem gL_isEnd_L_booked : GoodIn wsL_isEnd (va_wsS RL 103 yL_booked wsL_booked) := goodIn_app (goodIn_of _ (by decide +kernel)) ggL_isEnd_L_booked
set_option maxRecDepth 20000 in
theorem ggL_isEnd_L_does : GoodIn wsL_isEnd wsL_does := goodIn_ca (goodIn_ca (goodIn_ca (goodIn_r _ [7, 8, 9, 10, 11, 12, 3, 13, 14, 15, 16, 17, 18, 19, 20, 21, 22, 23, 24, 25, 26, 27, 28, 29, 30, 31, 32, 33, 34, 35, 36, 37, 38, 39, 40, 41, 42, 43, 44, 45, 46, 47, 48, 49, 50, 51, 52, 53, 54, 55, 56, 57, 58, 59, 60, 61, 62, 63, 64, 65, 66, 67, 68, 69, 70, 71, 72, 73, 74, 75, 76, 77, 78, 79, 80, 81, 82, 83, 84, 85, 86, 87, 88, 89, 90, 91, 92, 93, 94, 95, 96, 97, 98, 99, 100, 101, 102, 103, 104, 105, 106, 107, 108, 109, 110, 111, 112, 113, 114, 115, 116, 117, 118, 119, 120, 121, 122, 123, 124, 125, 126, 127, 128, 129, 130, 131, 132, 133, 134, 135, 136, 137, 138, 139, 140, 141, 142, 143, 144, 145, 146, 147, 148, 149, 150, 151, 152, 153, 154, 155, 156, 157, 158, 159, 160, 161, 162, 163, 164, 165, 166, 167, 168, 169, 170, 171, 172, 173, 174, 175, 176, 177, 178, 179, 180, 181, 182, 183, 184, 185, 186, 187, 188, 189, 190, 191, 192, 193, 194, 195, 196, 197, 198, 199, 200, 201, 202, 203, 204, 205, 206, 207, 208, 209, 210, 211, 212, 213, 214, 215, 216, 217, 218, 219, 220, 221, 222, 223, 224, 225, 226, 227, 228, 229, 230, 231, 232, 233, 234, 235, 236, 237, 238, 239, 240, 241, 242, 243, 244, 245, 246, 247, 248, 249, 250, 251, 252, 253, 254, 255, 256, 257, 258, 259, 260, 261, 262, 263, 264, 265, 266, 267, 268, 269, 270, 271, 272, 273, 274, 275, 276, 277, 278] (by decide +kernel) (by decide +kernel)) (goodIn_sub (fun _ h => List.mem_cons_of_mem _ (List.mem_append_left _ (List.mem_append_left _ (List.mem_append_right _ h)))) (by decide +kernel))) (goodIn_sub (fun _ h => List.mem_cons_of_mem _ (List.mem_append_left _ (List.mem_append_right _ h))) (by decide +kernel))) (goodIn_sub (fun _ h => List.mem_cons_of_mem _ (List.mem_append_right _ h)) (by decide +kernel))
set_option maxRecDepth 20000 in
theorem gL_isEnd_L_does : GoodIn wsL_isEnd (va_wsS RL 113 yL_does wsL_does) := goodIn_app (goodIn_of _ (by decide +kernel)) ggL_isEnd_L_does
theorem dL_isEnd_0 : decode cL_isEnd 0 = .ok (.iconst 0, 1) := by decide +kernel
theorem dL_isEnd_1 : decode cL_isEnd 1 = .ok (.istore 6, 2) := by decide +kernel
theorem dL_isEnd_3 : decode cL_isEnd 3 = .ok (.iconst 0, 1) := by decide +kernel
theorem dL_isEnd_4 : decode cL_isEnd 4 = .ok (.istore 7, 2) := by decide +kernel
theorem dL_isEnd_6 : decode cL_isEnd 6 = .ok (.iload 7, 2) := by decide +kernel
theorem dL_isEnd_8 : decode cL_isEnd 8 = .ok (.iconst 3, 1) := by decide +kernel
theorem dL_isEnd_9 : decode cL_isEnd 9 = .ok (.if_icmp .ge 70, 3) := by decide +kernel
theorem dL_isEnd_12 : decode cL_isEnd 12 = .ok (.aload_n 3, 1) := by decide +kernel
theorem dL_isEnd_13 : decode cL_isEnd 13 = .ok (.aload 4, 2) := by decide +kernel
theorem dL_isEnd_15 : decode cL_isEnd 15 = .ok (.iload 7, 2) := by decide +kernel
theorem dL_isEnd_17 : decode cL_isEnd 17 = .ok (.invokestatic 103, 3) := by decide +kernel
theorem dL_isEnd_20 : decode cL_isEnd 20 = .ok (.iload 5, 2) := by decide +kernel
theorem dL_isEnd_22 : decode cL_isEnd 22 = .ok (.imul, 1) := by decide +kernel
theorem dL_isEnd_23 : decode cL_isEnd 23 = .ok (.istore 8, 2) := by decide +kernel
theorem dL_isEnd_25 : decode cL_isEnd 25 = .ok (.iload 8, 2) := by decide +kernel
theorem dL_isEnd_27 : decode cL_isEnd 27 = .ok (.bipush 100, 2) := by decide +kernel
theorem dL_isEnd_29 : decode cL_isEnd 29 = .ok (.idiv, 1) := by decide +kernel
theorem dL_isEnd_30 : decode cL_isEnd 30 = .ok (.iload 8, 2) := by decide +kernel
theorem dL_isEnd_32 : decode cL_isEnd 32 = .ok (.bipush 100, 2) := by decide +kernel
theorem dL_isEnd_34 : decode cL_isEnd 34 = .ok (.irem, 1) := by decide +kernel
theorem dL_isEnd_35 : decode cL_isEnd 35 = .ok (.ifCond .le 7, 3) := by decide +kernel
theorem dL_isEnd_38 : decode cL_isEnd 38 = .ok (.iconst 1, 1) := by decide +kernel
theorem dL_isEnd_39 : decode cL_isEnd 39 = .ok (.goto 4, 3) := by decide +kernel
theorem dL_isEnd_42 : decode cL_isEnd 42 = .ok (.iconst 0, 1) := by decide +kernel
theorem dL_isEnd_43 : decode cL_isEnd 43 = .ok (.iadd, 1) := by decide +kernel
theorem dL_isEnd_44 : decode cL_isEnd 44 = .ok (.istore 8, 2) := by decide +kernel
theorem dL_isEnd_46 : decode cL_isEnd 46 = .ok (.iload 6, 2) := by decide +kernel
theorem dL_isEnd_48 : decode cL_isEnd 48 = .ok (.iload 8, 2) := by decide +kernel
theorem dL_isEnd_50 : decode cL_isEnd 50 = .ok (.aload 4, 2) := by decide +kernel
theorem dL_isEnd_52 : decode cL_isEnd 52 = .ok (.iload 7, 2) := by decide +kernel
theorem dL_isEnd_54 : decode cL_isEnd 54 = .ok (.iaload, 1) := by decide +kernel
theorem dL_isEnd_55 : decode cL_isEnd 55 = .ok (.if_icmp .le 14, 3) := by decide +kernel
theorem dL_isEnd_58 : decode cL_isEnd 58 = .ok (.iload 8, 2) := by decide +kernel
theorem dL_isEnd_60 : decode cL_isEnd 60 = .ok (.aload 4, 2) := by decide +kernel
theorem dL_isEnd_62 : decode cL_isEnd 62 = .ok (.iload 7, 2) := by decide +kernel
theorem dL_isEnd_64 : decode cL_isEnd 64 = .ok (.iaload, 1) := by decide +kernel
theorem dL_isEnd_65 : decode cL_isEnd 65 = .ok (.isub, 1) := by decide +kernel
theorem dL_isEnd_66 : decode cL_isEnd 66 = .ok (.goto 4, 3) := by decide +kernel
theorem dL_isEnd_69 : decode cL_isEnd 69 = .ok (.iconst 0, 1) := by decide +kernel
theorem dL_isEnd_70 : decode cL_isEnd 70 = .ok (.iadd, 1) := by decide +kernel
theorem dL_isEnd_71 : decode cL_isEnd 71 = .ok (.istore 6, 2) := by decide +kernel
theorem dL_isEnd_73 : decode cL_isEnd 73 = .ok (.iinc 7 1, 3) := by decide +kernel
theorem dL_isEnd_76 : decode cL_isEnd 76 = .ok (.goto (-70), 3) := by decide +kernel
theorem dL_isEnd_79 : decode cL_isEnd 79 = .ok (.iconst 0, 1) := by decide +kernel
theorem dL_isEnd_80 : decode cL_isEnd 80 = .ok (.istore 7, 2) := by decide +kernel
theorem dL_isEnd_82 : decode cL_isEnd 82 = .ok (.iload 7, 2) := by decide +kernel
theorem dL_isEnd_84 : decode cL_isEnd 84 = .ok (.aload 4, 2) := by decide +kernel
theorem dL_isEnd_86 : decode cL_isEnd 86 = .ok (.bipush 6, 2) := by decide +kernel
theorem dL_isEnd_88 : decode cL_isEnd 88 = .ok (.iaload, 1) := by decide +kernel
theorem dL_isEnd_89 : decode cL_isEnd 89 = .ok (.if_icmp .ge 24, 3) := by decide +kernel
theorem dL_isEnd_92 : decode cL_isEnd 92 = .ok (.aload 4, 2) := by decide +kernel
theorem dL_isEnd_94 : decode cL_isEnd 94 = .ok (.bipush 10, 2) := by decide +kernel
theorem dL_isEnd_96 : decode cL_isEnd 96 = .ok (.dup2, 1) := by decide +kernel
theorem dL_isEnd_97 : decode cL_isEnd 97 = .ok (.iaload, 1) := by decide +kernel
theorem dL_isEnd_98 : decode cL_isEnd 98 = .ok (.aload_n 3, 1) := by decide +kernel
theorem dL_isEnd_99 : decode cL_isEnd 99 = .ok (.bipush 20, 2) := by decide +kernel
theorem dL_isEnd_101 : decode cL_isEnd 101 = .ok (.iload 7, 2) := by decide +kernel
theorem dL_isEnd_103 : decode cL_isEnd 103 = .ok (.iadd, 1) := by decide +kernel
theorem dL_isEnd_104 : decode cL_isEnd 104 = .ok (.iaload, 1) := by decide +kernel
theorem dL_isEnd_105 : decode cL_isEnd 105 = .ok (.iadd, 1) := by decide +kernel
theorem dL_isEnd_106 : decode cL_isEnd 106 = .ok (.iastore, 1) := by decide +kernel
theorem dL_isEnd_107 : decode cL_isEnd 107 = .ok (.iinc 7 1, 3) := by decide +kernel
theorem dL_isEnd_110 : decode cL_isEnd 110 = .ok (.goto (-28), 3) := by decide +kernel
theorem dL_isEnd_113 : decode cL_isEnd 113 = .ok (.aload 4, 2) := by decide +kernel
theorem dL_isEnd_115 : decode cL_isEnd 115 = .ok (.bipush 10, 2) := by decide +kernel
theorem dL_isEnd_117 : decode cL_isEnd 117 = .ok (.dup2, 1) := by decide +kernel
theorem dL_isEnd_118 : decode cL_isEnd 118 = .ok (.iaload, 1) := by decide +kernel
theorem dL_isEnd_119 : decode cL_isEnd 119 = .ok (.bipush 100, 2) := by decide +kernel
theorem dL_isEnd_121 : decode cL_isEnd 121 = .ok (.iload 6, 2) := by decide +kernel
theorem dL_isEnd_123 : decode cL_isEnd 123 = .ok (.imul, 1) := by decide +kernel
theorem dL_isEnd_124 : decode cL_isEnd 124 = .ok (.isub, 1) := by decide +kernel
theorem dL_isEnd_125 : decode cL_isEnd 125 = .ok (.iastore, 1) := by decide +kernel
theorem dL_isEnd_126 : decode cL_isEnd 126 = .ok (.iconst 0, 1) := by decide +kernel
theorem dL_isEnd_127 : decode cL_isEnd 127 = .ok (.istore 7, 2) := by decide +kernel
theorem dL_isEnd_129 : decode cL_isEnd 129 = .ok (.iload 7, 2) := by decide +kernel
theorem dL_isEnd_131 : decode cL_isEnd 131 = .ok (.aload 4, 2) := by decide +kernel
theorem dL_isEnd_133 : decode cL_isEnd 133 = .ok (.iconst 4, 1) := by decide +kernel
theorem dL_isEnd_134 : decode cL_isEnd 134 = .ok (.iaload, 1) := by decide +kernel
theorem dL_isEnd_135 : decode cL_isEnd 135 = .ok (.if_icmp .ge 86, 3) := by decide +kernel
theorem dL_isEnd_138 : decode cL_isEnd 138 = .ok (.aload_n 2, 1) := by decide +kernel
theorem dL_isEnd_139 : decode cL_isEnd 139 = .ok (.bipush 10, 2) := by decide +kernel
theorem dL_isEnd_141 : decode cL_isEnd 141 = .ok (.iload 7, 2) := by decide +kernel
theorem dL_isEnd_143 : decode cL_isEnd 143 = .ok (.imul, 1) := by decide +kernel
theorem dL_isEnd_144 : decode cL_isEnd 144 = .ok (.aload 4, 2) := by decide +kernel
theorem dL_isEnd_146 : decode cL_isEnd 146 = .ok (.iconst 5, 1) := by decide +kernel
theorem dL_isEnd_147 : decode cL_isEnd 147 = .ok (.iaload, 1) := by decide +kernel
theorem dL_isEnd_148 : decode cL_isEnd 148 = .ok (.iadd, 1) := by decide +kernel
theorem dL_isEnd_149 : decode cL_isEnd 149 = .ok (.aload_n 1, 1) := by decide +kernel
theorem dL_isEnd_150 : decode cL_isEnd 150 = .ok (.bipush 6, 2) := by decide +kernel
theorem dL_isEnd_152 : decode cL_isEnd 152 = .ok (.iload 7, 2) := by decide +kernel
theorem dL_isEnd_154 : decode cL_isEnd 154 = .ok (.imul, 1) := by decide +kernel
theorem dL_isEnd_155 : decode cL_isEnd 155 = .ok (.iconst 4, 1) := by decide +kernel
theorem dL_isEnd_156 : decode cL_isEnd 156 = .ok (.iadd, 1) := by decide +kernel
theorem dL_isEnd_157 : decode cL_isEnd 157 = .ok (.iaload, 1) := by decide +kernel
theorem dL_isEnd_158 : decode cL_isEnd 158 = .ok (.iastore, 1) := by decide +kernel
theorem dL_isEnd_159 : decode cL_isEnd 159 = .ok (.aload_n 1, 1) := by decide +kernel
theorem dL_isEnd_160 : decode cL_isEnd 160 = .ok (.bipush 6, 2) := by decide +kernel
theorem dL_isEnd_162 : decode cL_isEnd 162 = .ok (.iload 7, 2) := by decide +kernel
theorem dL_isEnd_164 : decode cL_isEnd 164 = .ok (.imul, 1) := by decide +kernel
theorem dL_isEnd_165 : decode cL_isEnd 165 = .ok (.iconst 5, 1) := by decide +kernel
theorem dL_isEnd_166 : decode cL_isEnd 166 = .ok (.iadd, 1) := by decide +kernel
theorem dL_isEnd_167 : decode cL_isEnd 167 = .ok (.dup2, 1) := by decide +kernel
theorem dL_isEnd_168 : decode cL_isEnd 168 = .ok (.iaload, 1) := by decide +kernel
theorem dL_isEnd_169 : decode cL_isEnd 169 = .ok (.aload_n 1, 1) := by decide +kernel
theorem dL_isEnd_170 : decode cL_isEnd 170 = .ok (.bipush 6, 2) := by decide +kernel
theorem dL_isEnd_172 : decode cL_isEnd 172 = .ok (.iload 7, 2) := by decide +kernel
theorem dL_isEnd_174 : decode cL_isEnd 174 = .ok (.imul, 1) := by decide +kernel
theorem dL_isEnd_175 : decode cL_isEnd 175 = .ok (.iconst 4, 1) := by decide +kernel
theorem dL_isEnd_176 : decode cL_isEnd 176 = .ok (.iadd, 1) := by decide +kernel
theorem dL_isEnd_177 : decode cL_isEnd 177 = .ok (.iaload, 1) := by decide +kernel
theorem dL_isEnd_178 : decode cL_isEnd 178 = .ok (.iadd, 1) := by decide +kernel
theorem dL_isEnd_179 : decode cL_isEnd 179 = .ok (.iastore, 1) := by decide +kernel
theorem dL_isEnd_180 : decode cL_isEnd 180 = .ok (.aload_n 1, 1) := by decide +kernel
theorem dL_isEnd_181 : decode cL_isEnd 181 = .ok (.bipush 6, 2) := by decide +kernel
theorem dL_isEnd_183 : decode cL_isEnd 183 = .ok (.iload 7, 2) := by decide +kernel
theorem dL_isEnd_185 : decode cL_isEnd 185 = .ok (.imul, 1) := by decide +kernel
theorem dL_isEnd_186 : decode cL_isEnd 186 = .ok (.iconst 3, 1) := by decide +kernel
theorem dL_isEnd_187 : decode cL_isEnd 187 = .ok (.iadd, 1) := by decide +kernel
theorem dL_isEnd_188 : decode cL_isEnd 188 = .ok (.aload_n 1, 1) := by decide +kernel
theorem dL_isEnd_189 : decode cL_isEnd 189 = .ok (.bipush 6, 2) := by decide +kernel
theorem dL_isEnd_191 : decode cL_isEnd 191 = .ok (.iload 7, 2) := by decide +kernel
theorem dL_isEnd_193 : decode cL_isEnd 193 = .ok (.imul, 1) := by decide +kernel
theorem dL_isEnd_194 : decode cL_isEnd 194 = .ok (.iconst 5, 1) := by decide +kernel
theorem dL_isEnd_195 : decode cL_isEnd 195 = .ok (.iadd, 1) := by decide +kernel
theorem dL_isEnd_196 : decode cL_isEnd 196 = .ok (.iaload, 1) := by decide +kernel
theorem dL_isEnd_197 : decode cL_isEnd 197 = .ok (.aload 4, 2) := by decide +kernel
theorem dL_isEnd_199 : decode cL_isEnd 199 = .ok (.iconst 5, 1) := by decide +kernel
theorem dL_isEnd_200 : decode cL_isEnd 200 = .ok (.iaload, 1) := by decide +kernel
theorem dL_isEnd_201 : decode cL_isEnd 201 = .ok (.iconst 1, 1) := by decide +kernel
theorem dL_isEnd_202 : decode cL_isEnd 202 = .ok (.iadd, 1) := by decide +kernel
theorem dL_isEnd_203 : decode cL_isEnd 203 = .ok (.idiv, 1) := by decide +kernel
theorem dL_isEnd_204 : decode cL_isEnd 204 = .ok (.iastore, 1) := by decide +kernel
theorem dL_isEnd_205 : decode cL_isEnd 205 = .ok (.aload_n 1, 1) := by decide +kernel
theorem dL_isEnd_206 : decode cL_isEnd 206 = .ok (.bipush 6, 2) := by decide +kernel
theorem dL_isEnd_208 : decode cL_isEnd 208 = .ok (.iload 7, 2) := by decide +kernel
theorem dL_isEnd_210 : decode cL_isEnd 210 = .ok (.imul, 1) := by decide +kernel
theorem dL_isEnd_211 : decode cL_isEnd 211 = .ok (.iconst 4, 1) := by decide +kernel
theorem dL_isEnd_212 : decode cL_isEnd 212 = .ok (.iadd, 1) := by decide +kernel
theorem dL_isEnd_213 : decode cL_isEnd 213 = .ok (.iconst 0, 1) := by decide +kernel
theorem dL_isEnd_214 : decode cL_isEnd 214 = .ok (.iastore, 1) := by decide +kernel
theorem dL_isEnd_215 : decode cL_isEnd 215 = .ok (.iinc 7 1, 3) := by decide +kernel
theorem dL_isEnd_218 : decode cL_isEnd 218 = .ok (.goto (-89), 3) := by decide +kernel
theorem dL_isEnd_221 : decode cL_isEnd 221 = .ok (.aload 4, 2) := by decide +kernel
theorem dL_isEnd_223 : decode cL_isEnd 223 = .ok (.iconst 5, 1) := by decide +kernel
theorem dL_isEnd_224 : decode cL_isEnd 224 = .ok (.dup2, 1) := by decide +kernel
theorem dL_isEnd_225 : decode cL_isEnd 225 = .ok (.iaload, 1) := by decide +kernel
theorem dL_isEnd_226 : decode cL_isEnd 226 = .ok (.iconst 1, 1) := by decide +kernel
theorem dL_isEnd_227 : decode cL_isEnd 227 = .ok (.iadd, 1) := by decide +kernel
theorem dL_isEnd_228 : decode cL_isEnd 228 = .ok (.iastore, 1) := by decide +kernel
theorem dL_isEnd_229 : decode cL_isEnd 229 = .ok (.aload 4, 2) := by decide +kernel
theorem dL_isEnd_231 : decode cL_isEnd 231 = .ok (.bipush 6, 2) := by decide +kernel
theorem dL_isEnd_233 : decode cL_isEnd 233 = .ok (.iconst 0, 1) := by decide +kernel
theorem dL_isEnd_234 : decode cL_isEnd 234 = .ok (.iastore, 1) := by decide +kernel
theorem dL_isEnd_235 : decode cL_isEnd 235 = .ok (.aload_n 0, 1) := by decide +kernel
theorem dL_isEnd_236 : decode cL_isEnd 236 = .ok (.bipush 7, 2) := by decide +kernel
theorem dL_isEnd_238 : decode cL_isEnd 238 = .ok (.iload 5, 2) := by decide +kernel
theorem dL_isEnd_240 : decode cL_isEnd 240 = .ok (.iconst 0, 1) := by decide +kernel
theorem dL_isEnd_241 : decode cL_isEnd 241 = .ok (.iconst 0, 1) := by decide +kernel
theorem dL_isEnd_242 : decode cL_isEnd 242 = .ok (.iconst 0, 1) := by decide +kernel
theorem dL_isEnd_243 : decode cL_isEnd 243 = .ok (.invokestatic 113, 3) := by decide +kernel
theorem dL_isEnd_246 : decode cL_isEnd 246 = .ok (.iload 6, 2) := by decide +kernel
theorem dL_isEnd_248 : decode cL_isEnd 248 = .ok (.if_icmp .ne 7, 3) := by decide +kernel
theorem dL_isEnd_251 : decode cL_isEnd 251 = .ok (.iconst 1, 1) := by decide +kernel
theorem dL_isEnd_252 : decode cL_isEnd 252 = .ok (.goto 4, 3) := by decide +kernel
theorem dL_isEnd_255 : decode cL_isEnd 255 = .ok (.iconst 0, 1) := by decide +kernel
theorem dL_isEnd_256 : decode cL_isEnd 256 = .ok (.ireturn, 1) := by decide +kernel
set_option maxRecDepth 20000 in
theorem ggL_isDone_L_part : GoodIn wsL_isDone wsL_part := goodIn_r _ [4, 5] (by decide +kernel) (by decide +kernel)
set_option maxRecDepth 20000 in
theorem gL_isDone_L_part : GoodIn wsL_isDone (va_wsS RL 121 yL_part wsL_part) := goodIn_app (goodIn_of _ (by decide +kernel)) ggL_isDone_L_part
set_option maxRecDepth 20000 in
theorem ggL_isDone_L_does : GoodIn wsL_isDone wsL_does := goodIn_ca (goodIn_ca (goodIn_ca (goodIn_r _ [8, 9, 10, 11, 12, 13, 3, 14, 15, 16, 17, 18, 19, 20, 21, 22, 23, 24, 25, 26, 27, 28, 29, 30, 31, 32, 33, 34, 35, 36, 37, 38, 39, 40, 41, 42, 43, 44, 45, 46, 47, 48, 49, 50, 51, 52, 53, 54, 55, 56, 57, 58, 59, 60, 61, 62, 63, 64, 65, 66, 67, 68, 69, 70, 71, 72, 73, 74, 75, 76, 77, 78, 79, 80, 81, 82, 83, 84, 85, 86, 87, 88, 89, 90, 91, 92, 93, 94, 95, 96, 97, 98, 99, 100, 101, 102, 103, 104, 105, 106, 107, 108, 109, 110, 111, 112, 113, 114, 115, 116, 117, 118, 119, 120, 121, 122, 123, 124, 125, 126, 127, 128, 129, 130, 131, 132, 133, 134, 135, 136, 137, 138, 139, 140, 141, 142, 143, 144, 145, 146, 147, 148, 149, 150, 151, 152, 153, 154, 155, 156, 157, 158, 159, 160, 161, 162, 163, 164, 165, 166, 167, 168, 169, 170, 171, 172, 173, 174, 175, 176, 177, 178, 179, 180, 181, 182, 183, 184, 185, 186, 187, 188, 189, 190, 191, 192, 193, 194, 195, 196, 197, 198, 199, 200, 201, 202, 203, 204, 205, 206, 207, 208, 209, 210, 211, 212, 213, 214, 215, 216, 217, 218, 219, 220, 221, 222, 223, 224, 225, 226, 227, 228, 229, 230, 231, 232, 233, 234, 235, 236, 237, 238, 239, 240, 241, 242, 243, 244, 245, 282, 283, 284, 285, 286, 287, 288, 289, 290, 291, 292, 293, 294, 295, 296, 297, 298, 299, 300, 301, 302, 303, 304, 305, 306, 307, 308, 309, 310, 311, 312, 313, 314, 315] (by decide +kernel) (by decide +kernel)) (goodIn_sub (fun _ h => List.mem_cons_of_mem _ (List.mem_append_left _ (List.mem_append_left _ (List.mem_append_right _ h)))) (by decide +kernel))) (goodIn_sub (fun _ h => List.mem_cons_of_mem _ (List.mem_append_left _ (List.mem_append_right _ h))) (by decide +kernel))) (goodIn_sub (fun _ h => List.mem_cons_of_mem _ (List.mem_append_right _ h)) (by decide +kernel))
set_option maxRecDepth 20000 in
theorem gL_isDone_L_does : GoodIn wsL_isDone (va_wsS RL 113 yL_does wsL_does) := goodIn_app (goodIn_of _ (by decide +kernel)) ggL_isDone_L_does
set_option maxRecDepth 20000 in
theorem ggL_isDone_L_isProduct : GoodIn wsL_isDone wsL_isProduct := goodIn_ca (goodIn_ca (goodIn_ca (goodIn_r _ [248, 249, 250, 251, 18, 252, 38, 6, 7, 3, 8, 9, 10, 11, 12, 13, 14, 15, 16, 17, 19, 20, 21, 22, 23, 24, 25, 26, 27, 28, 29, 30, 31, 32, 33, 34, 35, 36, 37, 39, 40, 41, 42, 43, 44, 45, 46, 47, 48, 49, 50, 51, 52, 53, 54, 55, 56, 57, 58, 59, 60, 61, 62, 63, 64, 65, 66, 67, 68, 69, 70, 71, 72, 73, 74, 75, 76, 77, 78, 79, 80, 81, 82, 83, 84, 85, 86, 87, 88, 89, 90, 91, 92, 93, 94, 95, 96, 97, 98, 99, 100, 101, 102, 103, 104, 105, 106, 107, 108, 109, 110, 111, 112, 113, 114, 115, 116, 117, 118, 119, 120, 121, 122, 123, 124, 125, 126, 127, 128, 129, 130, 131, 132, 133, 134, 135, 136, 137, 138, 139, 140, 141, 142, 143, 144, 145, 146, 147, 148, 149, 150, 151, 152, 153, 154, 155, 156, 157, 158, 159, 160, 161, 162, 163, 164, 165, 166, 167, 168, 169, 170, 171, 172, 173, 174, 175, 176, 177, 178, 179, 180, 181, 182, 183, 184, 185, 186, 187, 188, 189, 190, 191, 192, 193, 194, 195, 196, 197, 198, 199, 200, 201, 202, 203, 204, 205, 206, 207, 208, 209, 210, 211, 212, 213, 214, 215, 216, 217, 218, 219, 220, 221, 222, 223, 224, 225, 226, 227, 228, 229, 230, 231, 232, 233, 234, 235, 236, 237, 238, 239, 240, 241, 242, 243, 244, 245, 282, 283, 284, 285, 286, 287, 288, 289, 290, 291, 292, 293, 294, 295, 296, 297, 298, 299, 300, 301, 302, 303, 304, 305, 306, 307, 308, 309, 310, 311, 312, 313, 314, 315] (by decide +kernel) (by decide +kernel)) (goodIn_sub (fun _ h => List.mem_cons_of_mem _ (List.mem_append_left _ (List.mem_append_left _ (List.mem_append_right _ h)))) (by decide +kernel))) (goodIn_sub (fun _ h => List.mem_cons_of_mem _ (List.mem_append_left _ (List.mem_append_right _ h))) (by decide +kernel))) (goodIn_sub (fun _ h => List.mem_cons_of_mem _ (List.mem_append_right _ h)) (by decide +kernel))
set_option maxRecDepth 20000 in
theorem gL_isDone_L_isProduct : GoodIn wsL_isDone (va_wsS RL 125 yL_isProduct wsL_isProduct) := goodIn_app (goodIn_of _ (by decide +kernel)) ggL_isDone_L_isProduct
set_option maxRecDepth 20000 in
theorem ggL_isDone_L_isAsked : GoodIn wsL_isDone wsL_isAsked := goodIn_ca (goodIn_ca (goodIn_ca (goodIn_r _ [255, 6, 7, 3, 8, 9, 10, 11, 12, 13, 14, 15, 16, 17, 18, 19, 20, 21, 22, 23, 24, 25, 26, 27, 28, 29, 30, 31, 32, 33, 34, 35, 36, 37, 38, 39, 40, 41, 42, 43, 44, 45, 46, 47, 48, 49, 50, 51, 52, 53, 54, 55, 56, 57, 58, 59, 60, 61, 62, 63, 64, 65, 66, 67, 68, 69, 70, 71, 72, 73, 74, 75, 76, 77, 78, 79, 80, 81, 82, 83, 84, 85, 86, 87, 88, 89, 90, 91, 92, 93, 94, 95, 96, 97, 98, 99, 100, 101, 102, 103, 104, 105, 106, 107, 108, 109, 110, 111, 112, 113, 114, 115, 116, 117, 118, 119, 120, 121, 122, 123, 124, 125, 126, 127, 128, 129, 130, 131, 132, 133, 134, 135, 136, 137, 138, 139, 140, 141, 142, 143, 144, 145, 146, 147, 148, 149, 150, 151, 152, 153, 154, 155, 156, 157, 158, 159, 160, 161, 162, 163, 164, 165, 166, 167, 168, 169, 170, 171, 172, 173, 174, 175, 176, 177, 178, 179, 180, 181, 182, 183, 184, 185, 186, 187, 188, 189, 190, 191, 192, 193, 194, 195, 196, 197, 198, 199, 200, 201, 202, 203, 204, 205, 206, 207, 208, 209, 210, 211, 212, 213, 214, 215, 216, 217, 218, 219, 220, 221, 222, 223, 224, 225, 226, 227, 228, 229, 230, 231, 232, 233, 234, 235, 236, 237, 238, 239, 240, 241, 242, 243, 244, 245, 256, 257, 258, 259, 260, 261, 262, 263, 264, 265, 266, 267, 268, 269, 270, 271, 282, 283, 284, 285, 286, 287, 288, 289, 290, 291, 292, 293, 294, 295, 296, 297, 298, 299, 300, 301, 302, 303, 304, 305, 306, 307, 308, 309, 310, 311, 312, 313, 314, 315] (by decide +kernel) (by decide +kernel)) (goodIn_sub (fun _ h => List.mem_cons_of_mem _ (List.mem_append_left _ (List.mem_append_left _ (List.mem_append_right _ h)))) (by decide +kernel))) (goodIn_sub (fun _ h => List.mem_cons_of_mem _ (List.mem_append_left _ (List.mem_append_right _ h))) (by decide +kernel))) (goodIn_sub (fun _ h => List.mem_cons_of_mem _ (List.mem_append_right _ h)) (by decide +kernel))
set_option maxRecDepth 20000 in
theorem gL_isDone_L_isAsked : GoodIn wsL_isDone (va_wsS RL 129 yL_isAsked wsL_isAsked) := goodIn_app (goodIn_of _ (by decide +kernel)) ggL_isDone_L_isAsked
set_option maxRecDepth 20000 in
theorem ggL_isDone_L_isGroup : GoodIn wsL_isDone wsL_isGroup := goodIn_ca (goodIn_ca (goodIn_ca (goodIn_r _ [274, 6, 7, 3, 8, 9, 10, 11, 12, 13, 14, 15, 16, 17, 18, 19, 20, 21, 22, 23, 24, 25, 26, 27, 28, 29, 30, 31, 32, 33, 34, 35, 36, 37, 38, 39, 40, 41, 42, 43, 44, 45, 46, 47, 48, 49, 50, 51, 52, 53, 54, 55, 56, 57, 58, 59, 60, 61, 62, 63, 64, 65, 66, 67, 68, 69, 70, 71, 72, 73, 74, 75, 76, 77, 78, 79, 80, 81, 82, 83, 84, 85, 86, 87, 88, 89, 90, 91, 92, 93, 94, 95, 96, 97, 98, 99, 100, 101, 102, 103, 104, 105, 106, 107, 108, 109, 110, 111, 112, 113, 114, 115, 116, 117, 118, 119, 120, 121, 122, 123, 124, 125, 126, 127, 128, 129, 130, 131, 132, 133, 134, 135, 136, 137, 138, 139, 140, 141, 142, 143, 144, 145, 146, 147, 148, 149, 150, 151, 152, 153, 154, 155, 156, 157, 158, 159, 160, 161, 162, 163, 164, 165, 166, 167, 168, 169, 170, 171, 172, 173, 174, 175, 176, 177, 178, 179, 180, 181, 182, 183, 184, 185, 186, 187, 188, 189, 190, 191, 192, 193, 194, 195, 196, 197, 198, 199, 200, 201, 202, 203, 204, 205, 206, 207, 208, 209, 210, 211, 212, 213, 214, 215, 216, 217, 218, 219, 220, 221, 222, 223, 224, 225, 226, 227, 228, 229, 230, 231, 232, 233, 234, 235, 236, 237, 238, 239, 240, 241, 242, 243, 244, 245, 259, 260, 261, 275, 276, 277, 278, 269, 270, 271, 282, 283, 284, 285, 286, 287, 288, 289, 290, 291, 292, 293, 294, 295, 296, 297, 298, 299, 300, 301, 302, 303, 304, 305, 306, 307, 308, 309, 310, 311, 312, 313, 314, 315] (by decide +kernel) (by decide +kernel)) (goodIn_sub (fun _ h => List.mem_cons_of_mem _ (List.mem_append_left _ (List.mem_append_left _ (List.mem_append_right _ h)))) (by decide +kernel))) (goodIn_sub (fun _ h => List.mem_cons_of_mem _ (List.mem_append_left _ (List.mem_append_right _ h))) (by decide +kernel))) (goodIn_sub (fun _ h => List.mem_cons_of_mem _ (List.mem_append_right _ h)) (by decide +kernel))
set_option maxRecDepth 20000 in
theorem gL_isDone_L_isGroup : GoodIn wsL_isDone (va_wsS RL 133 yL_isGroup wsL_isGroup) := goodIn_app (goodIn_of _ (by decide +kernel)) ggL_isDone_L_isGroup
set_option maxRecDepth 20000 in
theorem ggL_isDone_L_isEnd : GoodIn wsL_isDone wsL_isEnd := goodIn_ca (goodIn_ca (goodIn_ca (goodIn_r _ [281, 259, 260, 3, 261, 6, 7, 8, 9, 10, 11, 12, 13, 14, 15, 16, 17, 18, 19, 20, 21, 22, 23, 24, 25, 26, 27, 28, 29, 30, 31, 32, 33, 34, 35, 36, 37, 38, 39, 40, 41, 42, 43, 44, 45, 46, 47, 48, 49, 50, 51, 52, 53, 54, 55, 56, 57, 58, 59, 60, 61, 62, 63, 64, 65, 66, 67, 68, 69, 70, 71, 72, 73, 74, 75, 76, 77, 78, 79, 80, 81, 82, 83, 84, 85, 86, 87, 88, 89, 90, 91, 92, 93, 94, 95, 96, 97, 98, 99, 100, 101, 102, 103, 104, 105, 106, 107, 108, 109, 110, 111, 112, 113, 114, 115, 116, 117, 118, 119, 120, 121, 122, 123, 124, 125, 126, 127, 128, 129, 130, 131, 132, 133, 134, 135, 136, 137, 138, 139, 140, 141, 142, 143, 144, 145, 146, 147, 148, 149, 150, 151, 152, 153, 154, 155, 156, 157, 158, 159, 160, 161, 162, 163, 164, 165, 166, 167, 168, 169, 170, 171, 172, 173, 174, 175, 176, 177, 178, 179, 180, 181, 182, 183, 184, 185, 186, 187, 188, 189, 190, 191, 192, 193, 194, 195, 196, 197, 198, 199, 200, 201, 202, 203, 204, 205, 206, 207, 208, 209, 210, 211, 212, 213, 214, 215, 216, 217, 218, 219, 220, 221, 222, 223, 224, 225, 226, 227, 228, 229, 230, 231, 232, 233, 234, 235, 236, 237, 238, 239, 240, 241, 242, 243, 244, 245, 282, 283, 284, 285, 286, 287, 288, 289, 290, 291, 292, 293, 294, 295, 296, 297, 298, 299, 300, 301, 302, 303, 304, 305, 306, 307, 308, 309, 310, 311, 312, 313, 314, 315] (by decide +kernel) (by decide +kernel)) (goodIn_sub (fun _ h => List.mem_cons_of_mem _ (List.mem_append_left _ (List.mem_append_left _ (List.mem_append_right _ h)))) (by decide +kernel))) (goodIn_sub (fun _ h => List.mem_cons_of_mem _ (List.mem_append_left _ (List.mem_append_right _ h))) (by decide +kernel))) (goodIn_sub (fun _ h => List.mem_cons_of_mem _ (List.mem_append_right _ h)) (by decide +kernel))
set_option maxRecDepth 20000 in
theorem gL_isDone_L_isEnd : GoodIn wsL_isDone (va_wsS RL 137 yL_isEnd wsL_isEnd) := goodIn_app (goodIn_of _ (by decide +kernel)) ggL_isDone_L_isEnd
theorem dL_isDone_0 : decode cL_isDone 0 = .ok (.aload_n 1, 1) := by decide +kernel
theorem dL_isDone_1 : decode cL_isDone 1 = .ok (.iload_n 2, 1) := by decide +kernel
theorem dL_isDone_2 : decode cL_isDone 2 = .ok (.bipush 40, 2) := by decide +kernel
theorem dL_isDone_4 : decode cL_isDone 4 = .ok (.invokestatic 121, 3) := by decide +kernel
theorem dL_isDone_7 : decode cL_isDone 7 = .ok (.istore 7, 2) := by decide +kernel
theorem dL_isDone_9 : decode cL_isDone 9 = .ok (.aload_n 1, 1) := by decide +kernel
theorem dL_isDone_10 : decode cL_isDone 10 = .ok (.iload_n 2, 1) := by decide +kernel
theorem dL_isDone_11 : decode cL_isDone 11 = .ok (.iconst 1, 1) := by decide +kernel
theorem dL_isDone_12 : decode cL_isDone 12 = .ok (.iadd, 1) := by decide +kernel
theorem dL_isDone_13 : decode cL_isDone 13 = .ok (.sipush 6000, 3) := by decide +kernel
theorem dL_isDone_16 : decode cL_isDone 16 = .ok (.invokestatic 121, 3) := by decide +kernel
theorem dL_isDone_19 : decode cL_isDone 19 = .ok (.istore 8, 2) := by decide +kernel
theorem dL_isDone_21 : decode cL_isDone 21 = .ok (.aload_n 1, 1) := by decide +kernel
theorem dL_isDone_22 : decode cL_isDone 22 = .ok (.iload_n 2, 1) := by decide +kernel
theorem dL_isDone_23 : decode cL_isDone 23 = .ok (.iconst 2, 1) := by decide +kernel
theorem dL_isDone_24 : decode cL_isDone 24 = .ok (.iadd, 1) := by decide +kernel
theorem dL_isDone_25 : decode cL_isDone 25 = .ok (.sipush 7000, 3) := by decide +kernel
theorem dL_isDone_28 : decode cL_isDone 28 = .ok (.invokestatic 121, 3) := by decide +kernel
theorem dL_isDone_31 : decode cL_isDone 31 = .ok (.istore 9, 2) := by decide +kernel
theorem dL_isDone_33 : decode cL_isDone 33 = .ok (.aload_n 1, 1) := by decide +kernel
theorem dL_isDone_34 : decode cL_isDone 34 = .ok (.iload_n 2, 1) := by decide +kernel
theorem dL_isDone_35 : decode cL_isDone 35 = .ok (.iconst 3, 1) := by decide +kernel
theorem dL_isDone_36 : decode cL_isDone 36 = .ok (.iadd, 1) := by decide +kernel
theorem dL_isDone_37 : decode cL_isDone 37 = .ok (.sipush 8000, 3) := by decide +kernel
theorem dL_isDone_40 : decode cL_isDone 40 = .ok (.invokestatic 121, 3) := by decide +kernel
theorem dL_isDone_43 : decode cL_isDone 43 = .ok (.istore 10, 2) := by decide +kernel
theorem dL_isDone_45 : decode cL_isDone 45 = .ok (.iload 7, 2) := by decide +kernel
theorem dL_isDone_47 : decode cL_isDone 47 = .ok (.iconst 3, 1) := by decide +kernel
theorem dL_isDone_48 : decode cL_isDone 48 = .ok (.if_icmp .ge 135, 3) := by decide +kernel
theorem dL_isDone_51 : decode cL_isDone 51 = .ok (.iload 10, 2) := by decide +kernel
theorem dL_isDone_53 : decode cL_isDone 53 = .ok (.bipush 25, 2) := by decide +kernel
theorem dL_isDone_55 : decode cL_isDone 55 = .ok (.irem, 1) := by decide +kernel
theorem dL_isDone_56 : decode cL_isDone 56 = .ok (.ifCond .ne 8, 3) := by decide +kernel
theorem dL_isDone_59 : decode cL_isDone 59 = .ok (.bipush 11, 2) := by decide +kernel
theorem dL_isDone_61 : decode cL_isDone 61 = .ok (.goto 8, 3) := by decide +kernel
theorem dL_isDone_64 : decode cL_isDone 64 = .ok (.iload 10, 2) := by decide +kernel
theorem dL_isDone_66 : decode cL_isDone 66 = .ok (.bipush 7, 2) := by decide +kernel
theorem dL_isDone_68 : decode cL_isDone 68 = .ok (.irem, 1) := by decide +kernel
theorem dL_isDone_69 : decode cL_isDone 69 = .ok (.istore 11, 2) := by decide +kernel
theorem dL_isDone_71 : decode cL_isDone 71 = .ok (.iload 11, 2) := by decide +kernel
theorem dL_isDone_73 : decode cL_isDone 73 = .ok (.bipush 11, 2) := by decide +kernel
theorem dL_isDone_75 : decode cL_isDone 75 = .ok (.if_icmp .ge 7, 3) := by decide +kernel
theorem dL_isDone_78 : decode cL_isDone 78 = .ok (.iconst 1, 1) := by decide +kernel
theorem dL_isDone_79 : decode cL_isDone 79 = .ok (.goto 4, 3) := by decide +kernel
theorem dL_isDone_82 : decode cL_isDone 82 = .ok (.iconst 0, 1) := by decide +kernel
theorem dL_isDone_83 : decode cL_isDone 83 = .ok (.istore 12, 2) := by decide +kernel
theorem dL_isDone_85 : decode cL_isDone 85 = .ok (.aload 6, 2) := by decide +kernel
theorem dL_isDone_87 : decode cL_isDone 87 = .ok (.iconst 0, 1) := by decide +kernel
theorem dL_isDone_88 : decode cL_isDone 88 = .ok (.iload 12, 2) := by decide +kernel
theorem dL_isDone_90 : decode cL_isDone 90 = .ok (.ifCond .eq 11, 3) := by decide +kernel
theorem dL_isDone_93 : decode cL_isDone 93 = .ok (.iload 8, 2) := by decide +kernel
theorem dL_isDone_95 : decode cL_isDone 95 = .ok (.bipush 7, 2) := by decide +kernel
theorem dL_isDone_97 : decode cL_isDone 97 = .ok (.irem, 1) := by decide +kernel
theorem dL_isDone_98 : decode cL_isDone 98 = .ok (.goto 7, 3) := by decide +kernel
theorem dL_isDone_101 : decode cL_isDone 101 = .ok (.aload 6, 2) := by decide +kernel
theorem dL_isDone_103 : decode cL_isDone 103 = .ok (.iconst 0, 1) := by decide +kernel
theorem dL_isDone_104 : decode cL_isDone 104 = .ok (.iaload, 1) := by decide +kernel
theorem dL_isDone_105 : decode cL_isDone 105 = .ok (.iastore, 1) := by decide +kernel
theorem dL_isDone_106 : decode cL_isDone 106 = .ok (.aload 6, 2) := by decide +kernel
theorem dL_isDone_108 : decode cL_isDone 108 = .ok (.iconst 1, 1) := by decide +kernel
theorem dL_isDone_109 : decode cL_isDone 109 = .ok (.iload 12, 2) := by decide +kernel
theorem dL_isDone_111 : decode cL_isDone 111 = .ok (.ifCond .eq 11, 3) := by decide +kernel
theorem dL_isDone_114 : decode cL_isDone 114 = .ok (.iload 9, 2) := by decide +kernel
theorem dL_isDone_116 : decode cL_isDone 116 = .ok (.bipush 8, 2) := by decide +kernel
theorem dL_isDone_118 : decode cL_isDone 118 = .ok (.irem, 1) := by decide +kernel
theorem dL_isDone_119 : decode cL_isDone 119 = .ok (.goto 7, 3) := by decide +kernel
theorem dL_isDone_122 : decode cL_isDone 122 = .ok (.aload 6, 2) := by decide +kernel
theorem dL_isDone_124 : decode cL_isDone 124 = .ok (.iconst 1, 1) := by decide +kernel
theorem dL_isDone_125 : decode cL_isDone 125 = .ok (.iaload, 1) := by decide +kernel
theorem dL_isDone_126 : decode cL_isDone 126 = .ok (.iastore, 1) := by decide +kernel
theorem dL_isDone_127 : decode cL_isDone 127 = .ok (.aload 6, 2) := by decide +kernel
theorem dL_isDone_129 : decode cL_isDone 129 = .ok (.iconst 2, 1) := by decide +kernel
theorem dL_isDone_130 : decode cL_isDone 130 = .ok (.iload 12, 2) := by decide +kernel
theorem dL_isDone_132 : decode cL_isDone 132 = .ok (.ifCond .eq 8, 3) := by decide +kernel
theorem dL_isDone_135 : decode cL_isDone 135 = .ok (.iload 11, 2) := by decide +kernel
theorem dL_isDone_137 : decode cL_isDone 137 = .ok (.goto 7, 3) := by decide +kernel
theorem dL_isDone_140 : decode cL_isDone 140 = .ok (.aload 6, 2) := by decide +kernel
theorem dL_isDone_142 : decode cL_isDone 142 = .ok (.iconst 2, 1) := by decide +kernel
theorem dL_isDone_143 : decode cL_isDone 143 = .ok (.iaload, 1) := by decide +kernel
theorem dL_isDone_144 : decode cL_isDone 144 = .ok (.iastore, 1) := by decide +kernel
theorem dL_isDone_145 : decode cL_isDone 145 = .ok (.aload_n 0, 1) := by decide +kernel
theorem dL_isDone_146 : decode cL_isDone 146 = .ok (.iconst 0, 1) := by decide +kernel
theorem dL_isDone_147 : decode cL_isDone 147 = .ok (.iload 8, 2) := by decide +kernel
theorem dL_isDone_149 : decode cL_isDone 149 = .ok (.bipush 7, 2) := by decide +kernel
theorem dL_isDone_151 : decode cL_isDone 151 = .ok (.irem, 1) := by decide +kernel
theorem dL_isDone_152 : decode cL_isDone 152 = .ok (.iload 9, 2) := by decide +kernel
theorem dL_isDone_154 : decode cL_isDone 154 = .ok (.bipush 8, 2) := by decide +kernel
theorem dL_isDone_156 : decode cL_isDone 156 = .ok (.irem, 1) := by decide +kernel
theorem dL_isDone_157 : decode cL_isDone 157 = .ok (.iload 11, 2) := by decide +kernel
theorem dL_isDone_159 : decode cL_isDone 159 = .ok (.iconst 0, 1) := by decide +kernel
theorem dL_isDone_160 : decode cL_isDone 160 = .ok (.invokestatic 113, 3) := by decide +kernel
theorem dL_isDone_163 : decode cL_isDone 163 = .ok (.iload 12, 2) := by decide +kernel
theorem dL_isDone_165 : decode cL_isDone 165 = .ok (.ifCond .eq 7, 3) := by decide +kernel
theorem dL_isDone_168 : decode cL_isDone 168 = .ok (.iconst 0, 1) := by decide +kernel
theorem dL_isDone_169 : decode cL_isDone 169 = .ok (.goto 5, 3) := by decide +kernel
theorem dL_isDone_172 : decode cL_isDone 172 = .ok (.bipush (-20), 2) := by decide +kernel
theorem dL_isDone_174 : decode cL_isDone 174 = .ok (.if_icmp .ne 7, 3) := by decide +kernel
theorem dL_isDone_177 : decode cL_isDone 177 = .ok (.iconst 1, 1) := by decide +kernel
theorem dL_isDone_178 : decode cL_isDone 178 = .ok (.goto 4, 3) := by decide +kernel
theorem dL_isDone_181 : decode cL_isDone 181 = .ok (.iconst 0, 1) := by decide +kernel
theorem dL_isDone_182 : decode cL_isDone 182 = .ok (.ireturn, 1) := by decide +kernel
theorem dL_isDone_183 : decode cL_isDone 183 = .ok (.iload 7, 2) := by decide +kernel
theorem dL_isDone_185 : decode cL_isDone 185 = .ok (.bipush 10, 2) := by decide +kernel
theorem dL_isDone_187 : decode cL_isDone 187 = .ok (.if_icmp .ge 19, 3) := by decide +kernel
theorem dL_isDone_190 : decode cL_isDone 190 = .ok (.aload_n 0, 1) := by decide +kernel
theorem dL_isDone_191 : decode cL_isDone 191 = .ok (.aload_n 3, 1) := by decide +kernel
theorem dL_isDone_192 : decode cL_isDone 192 = .ok (.aload 4, 2) := by decide +kernel
theorem dL_isDone_194 : decode cL_isDone 194 = .ok (.aload 6, 2) := by decide +kernel
theorem dL_isDone_196 : decode cL_isDone 196 = .ok (.iload 8, 2) := by decide +kernel
theorem dL_isDone_198 : decode cL_isDone 198 = .ok (.iload 9, 2) := by decide +kernel
theorem dL_isDone_200 : decode cL_isDone 200 = .ok (.iload 10, 2) := by decide +kernel
theorem dL_isDone_202 : decode cL_isDone 202 = .ok (.invokestatic 125, 3) := by decide +kernel
theorem dL_isDone_205 : decode cL_isDone 205 = .ok (.ireturn, 1) := by decide +kernel
theorem dL_isDone_206 : decode cL_isDone 206 = .ok (.iload 7, 2) := by decide +kernel
theorem dL_isDone_208 : decode cL_isDone 208 = .ok (.bipush 14, 2) := by decide +kernel
theorem dL_isDone_210 : decode cL_isDone 210 = .ok (.if_icmp .ge 109, 3) := by decide +kernel
theorem dL_isDone_213 : decode cL_isDone 213 = .ok (.iload 8, 2) := by decide +kernel
theorem dL_isDone_215 : decode cL_isDone 215 = .ok (.aload 6, 2) := by decide +kernel
theorem dL_isDone_217 : decode cL_isDone 217 = .ok (.iconst 4, 1) := by decide +kernel
theorem dL_isDone_218 : decode cL_isDone 218 = .ok (.iaload, 1) := by decide +kernel
theorem dL_isDone_219 : decode cL_isDone 219 = .ok (.iconst 1, 1) := by decide +kernel
theorem dL_isDone_220 : decode cL_isDone 220 = .ok (.iadd, 1) := by decide +kernel
theorem dL_isDone_221 : decode cL_isDone 221 = .ok (.irem, 1) := by decide +kernel
theorem dL_isDone_222 : decode cL_isDone 222 = .ok (.istore 11, 2) := by decide +kernel
theorem dL_isDone_224 : decode cL_isDone 224 = .ok (.iload 9, 2) := by decide +kernel
theorem dL_isDone_226 : decode cL_isDone 226 = .ok (.bipush 30, 2) := by decide +kernel
theorem dL_isDone_228 : decode cL_isDone 228 = .ok (.irem, 1) := by decide +kernel
theorem dL_isDone_229 : decode cL_isDone 229 = .ok (.ifCond .ne 8, 3) := by decide +kernel
theorem dL_isDone_232 : decode cL_isDone 232 = .ok (.bipush 21, 2) := by decide +kernel
theorem dL_isDone_234 : decode cL_isDone 234 = .ok (.goto 8, 3) := by decide +kernel
theorem dL_isDone_237 : decode cL_isDone 237 = .ok (.iload 9, 2) := by decide +kernel
theorem dL_isDone_239 : decode cL_isDone 239 = .ok (.bipush 8, 2) := by decide +kernel
theorem dL_isDone_241 : decode cL_isDone 241 = .ok (.irem, 1) := by decide +kernel
theorem dL_isDone_242 : decode cL_isDone 242 = .ok (.istore 12, 2) := by decide +kernel
theorem dL_isDone_244 : decode cL_isDone 244 = .ok (.iload 11, 2) := by decide +kernel
theorem dL_isDone_246 : decode cL_isDone 246 = .ok (.aload 6, 2) := by decide +kernel
theorem dL_isDone_248 : decode cL_isDone 248 = .ok (.iconst 4, 1) := by decide +kernel
theorem dL_isDone_249 : decode cL_isDone 249 = .ok (.iaload, 1) := by decide +kernel
theorem dL_isDone_250 : decode cL_isDone 250 = .ok (.if_icmp .ne 8, 3) := by decide +kernel
theorem dL_isDone_253 : decode cL_isDone 253 = .ok (.bipush (-30), 2) := by decide +kernel
theorem dL_isDone_255 : decode cL_isDone 255 = .ok (.goto 24, 3) := by decide +kernel
theorem dL_isDone_258 : decode cL_isDone 258 = .ok (.iload 12, 2) := by decide +kernel
theorem dL_isDone_260 : decode cL_isDone 260 = .ok (.bipush 20, 2) := by decide +kernel
theorem dL_isDone_262 : decode cL_isDone 262 = .ok (.if_icmp .le 8, 3) := by decide +kernel
theorem dL_isDone_265 : decode cL_isDone 265 = .ok (.bipush (-20), 2) := by decide +kernel
theorem dL_isDone_267 : decode cL_isDone 267 = .ok (.goto 12, 3) := by decide +kernel
theorem dL_isDone_270 : decode cL_isDone 270 = .ok (.aload_n 3, 1) := by decide +kernel
theorem dL_isDone_271 : decode cL_isDone 271 = .ok (.bipush 6, 2) := by decide +kernel
theorem dL_isDone_273 : decode cL_isDone 273 = .ok (.iload 11, 2) := by decide +kernel
theorem dL_isDone_275 : decode cL_isDone 275 = .ok (.imul, 1) := by decide +kernel
theorem dL_isDone_276 : decode cL_isDone 276 = .ok (.iconst 3, 1) := by decide +kernel
theorem dL_isDone_277 : decode cL_isDone 277 = .ok (.iadd, 1) := by decide +kernel
theorem dL_isDone_278 : decode cL_isDone 278 = .ok (.iaload, 1) := by decide +kernel
theorem dL_isDone_279 : decode cL_isDone 279 = .ok (.istore 13, 2) := by decide +kernel
theorem dL_isDone_281 : decode cL_isDone 281 = .ok (.iload 13, 2) := by decide +kernel
theorem dL_isDone_283 : decode cL_isDone 283 = .ok (.ifCond .lt 14, 3) := by decide +kernel
theorem dL_isDone_286 : decode cL_isDone 286 = .ok (.aload_n 3, 1) := by decide +kernel
theorem dL_isDone_287 : decode cL_isDone 287 = .ok (.bipush 6, 2) := by decide +kernel
theorem dL_isDone_289 : decode cL_isDone 289 = .ok (.iload 11, 2) := by decide +kernel
theorem dL_isDone_291 : decode cL_isDone 291 = .ok (.imul, 1) := by decide +kernel
theorem dL_isDone_292 : decode cL_isDone 292 = .ok (.iconst 3, 1) := by decide +kernel
theorem dL_isDone_293 : decode cL_isDone 293 = .ok (.iadd, 1) := by decide +kernel
theorem dL_isDone_294 : decode cL_isDone 294 = .ok (.iload 12, 2) := by decide +kernel
theorem dL_isDone_296 : decode cL_isDone 296 = .ok (.iastore, 1) := by decide +kernel
theorem dL_isDone_297 : decode cL_isDone 297 = .ok (.aload_n 0, 1) := by decide +kernel
theorem dL_isDone_298 : decode cL_isDone 298 = .ok (.iconst 2, 1) := by decide +kernel
theorem dL_isDone_299 : decode cL_isDone 299 = .ok (.iload 11, 2) := by decide +kernel
theorem dL_isDone_301 : decode cL_isDone 301 = .ok (.iload 12, 2) := by decide +kernel
theorem dL_isDone_303 : decode cL_isDone 303 = .ok (.iconst 0, 1) := by decide +kernel
theorem dL_isDone_304 : decode cL_isDone 304 = .ok (.iconst 0, 1) := by decide +kernel
theorem dL_isDone_305 : decode cL_isDone 305 = .ok (.invokestatic 113, 3) := by decide +kernel
theorem dL_isDone_308 : decode cL_isDone 308 = .ok (.iload 13, 2) := by decide +kernel
theorem dL_isDone_310 : decode cL_isDone 310 = .ok (.if_icmp .ne 7, 3) := by decide +kernel
theorem dL_isDone_313 : decode cL_isDone 313 = .ok (.iconst 1, 1) := by decide +kernel
theorem dL_isDone_314 : decode cL_isDone 314 = .ok (.goto 4, 3) := by decide +kernel
theorem dL_isDone_317 : decode cL_isDone 317 = .ok (.iconst 0, 1) := by decide +kernel
theorem dL_isDone_318 : decode cL_isDone 318 = .ok (.ireturn, 1) := by decide +kernel
theorem dL_isDone_319 : decode cL_isDone 319 = .ok (.iload 7, 2) := by decide +kernel
theorem dL_isDone_321 : decode cL_isDone 321 = .ok (.bipush 14, 2) := by decide +kernel
theorem dL_isDone_323 : decode cL_isDone 323 = .ok (.if_icmp .ne 77, 3) := by decide +kernel
theorem dL_isDone_326 : decode cL_isDone 326 = .ok (.bipush 49, 2) := by decide +kernel
theorem dL_isDone_328 : decode cL_isDone 328 = .ok (.iload 8, 2) := by decide +kernel
theorem dL_isDone_330 : decode cL_isDone 330 = .ok (.bipush 53, 2) := by decide +kernel
theorem dL_isDone_332 : decode cL_isDone 332 = .ok (.irem, 1) := by decide +kernel
theorem dL_isDone_333 : decode cL_isDone 333 = .ok (.iadd, 1) := by decide +kernel
theorem dL_isDone_334 : decode cL_isDone 334 = .ok (.istore 11, 2) := by decide +kernel
theorem dL_isDone_336 : decode cL_isDone 336 = .ok (.iload 11, 2) := by decide +kernel
theorem dL_isDone_338 : decode cL_isDone 338 = .ok (.bipush 50, 2) := by decide +kernel
theorem dL_isDone_340 : decode cL_isDone 340 = .ok (.if_icmp .lt 10, 3) := by decide +kernel
theorem dL_isDone_343 : decode cL_isDone 343 = .ok (.iload 11, 2) := by decide +kernel
theorem dL_isDone_345 : decode cL_isDone 345 = .ok (.bipush 100, 2) := by decide +kernel
theorem dL_isDone_347 : decode cL_isDone 347 = .ok (.if_icmp .le 8, 3) := by decide +kernel
theorem dL_isDone_350 : decode cL_isDone 350 = .ok (.bipush (-20), 2) := by decide +kernel
theorem dL_isDone_352 : decode cL_isDone 352 = .ok (.goto 7, 3) := by decide +kernel
theorem dL_isDone_355 : decode cL_isDone 355 = .ok (.aload 6, 2) := by decide +kernel
theorem dL_isDone_357 : decode cL_isDone 357 = .ok (.iconst 3, 1) := by decide +kernel
theorem dL_isDone_358 : decode cL_isDone 358 = .ok (.iaload, 1) := by decide +kernel
theorem dL_isDone_359 : decode cL_isDone 359 = .ok (.istore 12, 2) := by decide +kernel
theorem dL_isDone_361 : decode cL_isDone 361 = .ok (.aload 6, 2) := by decide +kernel
theorem dL_isDone_363 : decode cL_isDone 363 = .ok (.iconst 3, 1) := by decide +kernel
theorem dL_isDone_364 : decode cL_isDone 364 = .ok (.iload 12, 2) := by decide +kernel
theorem dL_isDone_366 : decode cL_isDone 366 = .ok (.ifCond .ge 10, 3) := by decide +kernel
theorem dL_isDone_369 : decode cL_isDone 369 = .ok (.aload 6, 2) := by decide +kernel
theorem dL_isDone_371 : decode cL_isDone 371 = .ok (.iconst 3, 1) := by decide +kernel
theorem dL_isDone_372 : decode cL_isDone 372 = .ok (.iaload, 1) := by decide +kernel
theorem dL_isDone_373 : decode cL_isDone 373 = .ok (.goto 5, 3) := by decide +kernel
theorem dL_isDone_376 : decode cL_isDone 376 = .ok (.iload 11, 2) := by decide +kernel
theorem dL_isDone_378 : decode cL_isDone 378 = .ok (.iastore, 1) := by decide +kernel
theorem dL_isDone_379 : decode cL_isDone 379 = .ok (.aload_n 0, 1) := by decide +kernel
theorem dL_isDone_380 : decode cL_isDone 380 = .ok (.iconst 3, 1) := by decide +kernel
theorem dL_isDone_381 : decode cL_isDone 381 = .ok (.iload 11, 2) := by decide +kernel
theorem dL_isDone_383 : decode cL_isDone 383 = .ok (.iconst 0, 1) := by decide +kernel
theorem dL_isDone_384 : decode cL_isDone 384 = .ok (.iconst 0, 1) := by decide +kernel
theorem dL_isDone_385 : decode cL_isDone 385 = .ok (.iconst 0, 1) := by decide +kernel
theorem dL_isDone_386 : decode cL_isDone 386 = .ok (.invokestatic 113, 3) := by decide +kernel
theorem dL_isDone_389 : decode cL_isDone 389 = .ok (.iload 12, 2) := by decide +kernel
theorem dL_isDone_391 : decode cL_isDone 391 = .ok (.if_icmp .ne 7, 3) := by decide +kernel
theorem dL_isDone_394 : decode cL_isDone 394 = .ok (.iconst 1, 1) := by decide +kernel
theorem dL_isDone_395 : decode cL_isDone 395 = .ok (.goto 4, 3) := by decide +kernel
theorem dL_isDone_398 : decode cL_isDone 398 = .ok (.iconst 0, 1) := by decide +kernel
theorem dL_isDone_399 : decode cL_isDone 399 = .ok (.ireturn, 1) := by decide +kernel
theorem dL_isDone_400 : decode cL_isDone 400 = .ok (.iload 7, 2) := by decide +kernel
theorem dL_isDone_402 : decode cL_isDone 402 = .ok (.bipush 27, 2) := by decide +kernel
theorem dL_isDone_404 : decode cL_isDone 404 = .ok (.if_icmp .ge 66, 3) := by decide +kernel
theorem dL_isDone_407 : decode cL_isDone 407 = .ok (.aload 6, 2) := by decide +kernel
theorem dL_isDone_409 : decode cL_isDone 409 = .ok (.bipush 6, 2) := by decide +kernel
theorem dL_isDone_411 : decode cL_isDone 411 = .ok (.iaload, 1) := by decide +kernel
theorem dL_isDone_412 : decode cL_isDone 412 = .ok (.bipush 18, 2) := by decide +kernel
theorem dL_isDone_414 : decode cL_isDone 414 = .ok (.if_icmp .gt 50, 3) := by decide +kernel
theorem dL_isDone_417 : decode cL_isDone 417 = .ok (.aload_n 0, 1) := by decide +kernel
theorem dL_isDone_418 : decode cL_isDone 418 = .ok (.aload_n 3, 1) := by decide +kernel
theorem dL_isDone_419 : decode cL_isDone 419 = .ok (.aload 4, 2) := by decide +kernel
theorem dL_isDone_421 : decode cL_isDone 421 = .ok (.aload 5, 2) := by decide +kernel
theorem dL_isDone_423 : decode cL_isDone 423 = .ok (.aload 6, 2) := by decide +kernel
theorem dL_isDone_425 : decode cL_isDone 425 = .ok (.iload 8, 2) := by decide +kernel
theorem dL_isDone_427 : decode cL_isDone 427 = .ok (.bipush 12, 2) := by decide +kernel
theorem dL_isDone_429 : decode cL_isDone 429 = .ok (.irem, 1) := by decide +kernel
theorem dL_isDone_430 : decode cL_isDone 430 = .ok (.ifCond .ne 10, 3) := by decide +kernel
theorem dL_isDone_433 : decode cL_isDone 433 = .ok (.aload 6, 2) := by decide +kernel
theorem dL_isDone_435 : decode cL_isDone 435 = .ok (.iconst 4, 1) := by decide +kernel
theorem dL_isDone_436 : decode cL_isDone 436 = .ok (.iaload, 1) := by decide +kernel
theorem dL_isDone_437 : decode cL_isDone 437 = .ok (.goto 21, 3) := by decide +kernel
theorem dL_isDone_440 : decode cL_isDone 440 = .ok (.iload 8, 2) := by decide +kernel
theorem dL_isDone_442 : decode cL_isDone 442 = .ok (.aload 6, 2) := by decide +kernel
theorem dL_isDone_444 : decode cL_isDone 444 = .ok (.iconst 4, 1) := by decide +kernel
theorem dL_isDone_445 : decode cL_isDone 445 = .ok (.iaload, 1) := by decide +kernel
theorem dL_isDone_446 : decode cL_isDone 446 = .ok (.ifCond .ne 7, 3) := by decide +kernel
theorem dL_isDone_449 : decode cL_isDone 449 = .ok (.iconst 1, 1) := by decide +kernel
theorem dL_isDone_450 : decode cL_isDone 450 = .ok (.goto 7, 3) := by decide +kernel
theorem dL_isDone_453 : decode cL_isDone 453 = .ok (.aload 6, 2) := by decide +kernel
theorem dL_isDone_455 : decode cL_isDone 455 = .ok (.iconst 4, 1) := by decide +kernel
theorem dL_isDone_456 : decode cL_isDone 456 = .ok (.iaload, 1) := by decide +kernel
theorem dL_isDone_457 : decode cL_isDone 457 = .ok (.irem, 1) := by decide +kernel
theorem dL_isDone_458 : decode cL_isDone 458 = .ok (.invokestatic 129, 3) := by decide +kernel
theorem dL_isDone_461 : decode cL_isDone 461 = .ok (.ifCond .eq 7, 3) := by decide +kernel
theorem dL_isDone_464 : decode cL_isDone 464 = .ok (.iconst 1, 1) := by decide +kernel
theorem dL_isDone_465 : decode cL_isDone 465 = .ok (.goto 4, 3) := by decide +kernel
theorem dL_isDone_468 : decode cL_isDone 468 = .ok (.iconst 0, 1) := by decide +kernel
theorem dL_isDone_469 : decode cL_isDone 469 = .ok (.ireturn, 1) := by decide +kernel
theorem dL_isDone_470 : decode cL_isDone 470 = .ok (.iload 7, 2) := by decide +kernel
theorem dL_isDone_472 : decode cL_isDone 472 = .ok (.bipush 33, 2) := by decide +kernel
theorem dL_isDone_474 : decode cL_isDone 474 = .ok (.if_icmp .ge 67, 3) := by decide +kernel
theorem dL_isDone_477 : decode cL_isDone 477 = .ok (.aload 6, 2) := by decide +kernel
theorem dL_isDone_479 : decode cL_isDone 479 = .ok (.bipush 6, 2) := by decide +kernel
theorem dL_isDone_481 : decode cL_isDone 481 = .ok (.iaload, 1) := by decide +kernel
theorem dL_isDone_482 : decode cL_isDone 482 = .ok (.bipush 18, 2) := by decide +kernel
theorem dL_isDone_484 : decode cL_isDone 484 = .ok (.if_icmp .gt 51, 3) := by decide +kernel
theorem dL_isDone_487 : decode cL_isDone 487 = .ok (.aload_n 0, 1) := by decide +kernel
theorem dL_isDone_488 : decode cL_isDone 488 = .ok (.aload 5, 2) := by decide +kernel
theorem dL_isDone_490 : decode cL_isDone 490 = .ok (.aload 6, 2) := by decide +kernel
theorem dL_isDone_492 : decode cL_isDone 492 = .ok (.iload 8, 2) := by decide +kernel
theorem dL_isDone_494 : decode cL_isDone 494 = .ok (.iconst 4, 1) := by decide +kernel
theorem dL_isDone_495 : decode cL_isDone 495 = .ok (.irem, 1) := by decide +kernel
theorem dL_isDone_496 : decode cL_isDone 496 = .ok (.iload 9, 2) := by decide +kernel
theorem dL_isDone_498 : decode cL_isDone 498 = .ok (.iconst 4, 1) := by decide +kernel
theorem dL_isDone_499 : decode cL_isDone 499 = .ok (.irem, 1) := by decide +kernel
theorem dL_isDone_500 : decode cL_isDone 500 = .ok (.iload 10, 2) := by decide +kernel
theorem dL_isDone_502 : decode cL_isDone 502 = .ok (.bipush 8, 2) := by decide +kernel
theorem dL_isDone_504 : decode cL_isDone 504 = .ok (.irem, 1) := by decide +kernel
theorem dL_isDone_505 : decode cL_isDone 505 = .ok (.iconst 1, 1) := by decide +kernel
theorem dL_isDone_506 : decode cL_isDone 506 = .ok (.iload 10, 2) := by decide +kernel
theorem dL_isDone_508 : decode cL_isDone 508 = .ok (.sipush 200, 3) := by decide +kernel
theorem dL_isDone_511 : decode cL_isDone 511 = .ok (.irem, 1) := by decide +kernel
theorem dL_isDone_512 : decode cL_isDone 512 = .ok (.iadd, 1) := by decide +kernel
theorem dL_isDone_513 : decode cL_isDone 513 = .ok (.iload 8, 2) := by decide +kernel
theorem dL_isDone_515 : decode cL_isDone 515 = .ok (.bipush 30, 2) := by decide +kernel
theorem dL_isDone_517 : decode cL_isDone 517 = .ok (.irem, 1) := by decide +kernel
theorem dL_isDone_518 : decode cL_isDone 518 = .ok (.ifCond .ne 9, 3) := by decide +kernel
theorem dL_isDone_521 : decode cL_isDone 521 = .ok (.sipush 3000, 3) := by decide +kernel
theorem dL_isDone_524 : decode cL_isDone 524 = .ok (.goto 4, 3) := by decide +kernel
theorem dL_isDone_527 : decode cL_isDone 527 = .ok (.iconst 0, 1) := by decide +kernel
theorem dL_isDone_528 : decode cL_isDone 528 = .ok (.iadd, 1) := by decide +kernel
theorem dL_isDone_529 : decode cL_isDone 529 = .ok (.invokestatic 133, 3) := by decide +kernel
theorem dL_isDone_532 : decode cL_isDone 532 = .ok (.ifCond .eq 7, 3) := by decide +kernel
theorem dL_isDone_535 : decode cL_isDone 535 = .ok (.iconst 1, 1) := by decide +kernel
theorem dL_isDone_536 : decode cL_isDone 536 = .ok (.goto 4, 3) := by decide +kernel
theorem dL_isDone_539 : decode cL_isDone 539 = .ok (.iconst 0, 1) := by decide +kernel
theorem dL_isDone_540 : decode cL_isDone 540 = .ok (.ireturn, 1) := by decide +kernel
theorem dL_isDone_541 : decode cL_isDone 541 = .ok (.iload 7, 2) := by decide +kernel
theorem dL_isDone_543 : decode cL_isDone 543 = .ok (.bipush 36, 2) := by decide +kernel
theorem dL_isDone_545 : decode cL_isDone 545 = .ok (.if_icmp .ge 92, 3) := by decide +kernel
theorem dL_isDone_548 : decode cL_isDone 548 = .ok (.iload 8, 2) := by decide +kernel
theorem dL_isDone_550 : decode cL_isDone 550 = .ok (.aload 6, 2) := by decide +kernel
theorem dL_isDone_552 : decode cL_isDone 552 = .ok (.bipush 6, 2) := by decide +kernel
theorem dL_isDone_554 : decode cL_isDone 554 = .ok (.iaload, 1) := by decide +kernel
theorem dL_isDone_555 : decode cL_isDone 555 = .ok (.iconst 1, 1) := by decide +kernel
theorem dL_isDone_556 : decode cL_isDone 556 = .ok (.iadd, 1) := by decide +kernel
theorem dL_isDone_557 : decode cL_isDone 557 = .ok (.irem, 1) := by decide +kernel
theorem dL_isDone_558 : decode cL_isDone 558 = .ok (.istore 11, 2) := by decide +kernel
theorem dL_isDone_560 : decode cL_isDone 560 = .ok (.iload 11, 2) := by decide +kernel
theorem dL_isDone_562 : decode cL_isDone 562 = .ok (.aload 6, 2) := by decide +kernel
theorem dL_isDone_564 : decode cL_isDone 564 = .ok (.bipush 6, 2) := by decide +kernel
theorem dL_isDone_566 : decode cL_isDone 566 = .ok (.iaload, 1) := by decide +kernel
theorem dL_isDone_567 : decode cL_isDone 567 = .ok (.if_icmp .ne 8, 3) := by decide +kernel
theorem dL_isDone_570 : decode cL_isDone 570 = .ok (.bipush (-30), 2) := by decide +kernel
theorem dL_isDone_572 : decode cL_isDone 572 = .ok (.goto 27, 3) := by decide +kernel
theorem dL_isDone_575 : decode cL_isDone 575 = .ok (.aload 5, 2) := by decide +kernel
theorem dL_isDone_577 : decode cL_isDone 577 = .ok (.bipush 20, 2) := by decide +kernel
theorem dL_isDone_579 : decode cL_isDone 579 = .ok (.iload 11, 2) := by decide +kernel
theorem dL_isDone_581 : decode cL_isDone 581 = .ok (.iadd, 1) := by decide +kernel
theorem dL_isDone_582 : decode cL_isDone 582 = .ok (.iaload, 1) := by decide +kernel
theorem dL_isDone_583 : decode cL_isDone 583 = .ok (.ifCond .ne 8, 3) := by decide +kernel
theorem dL_isDone_586 : decode cL_isDone 586 = .ok (.bipush (-10), 2) := by decide +kernel
theorem dL_isDone_588 : decode cL_isDone 588 = .ok (.goto 11, 3) := by decide +kernel
theorem dL_isDone_591 : decode cL_isDone 591 = .ok (.aload 5, 2) := by decide +kernel
theorem dL_isDone_593 : decode cL_isDone 593 = .ok (.iload 11, 2) := by decide +kernel
theorem dL_isDone_595 : decode cL_isDone 595 = .ok (.iaload, 1) := by decide +kernel
theorem dL_isDone_596 : decode cL_isDone 596 = .ok (.bipush 100, 2) := by decide +kernel
theorem dL_isDone_598 : decode cL_isDone 598 = .ok (.irem, 1) := by decide +kernel
theorem dL_isDone_599 : decode cL_isDone 599 = .ok (.istore 12, 2) := by decide +kernel
theorem dL_isDone_601 : decode cL_isDone 601 = .ok (.iload 12, 2) := by decide +kernel
theorem dL_isDone_603 : decode cL_isDone 603 = .ok (.ifCond .le 12, 3) := by decide +kernel
theorem dL_isDone_606 : decode cL_isDone 606 = .ok (.aload 5, 2) := by decide +kernel
theorem dL_isDone_608 : decode cL_isDone 608 = .ok (.bipush 20, 2) := by decide +kernel
theorem dL_isDone_610 : decode cL_isDone 610 = .ok (.iload 11, 2) := by decide +kernel
theorem dL_isDone_612 : decode cL_isDone 612 = .ok (.iadd, 1) := by decide +kernel
theorem dL_isDone_613 : decode cL_isDone 613 = .ok (.iconst 0, 1) := by decide +kernel
theorem dL_isDone_614 : decode cL_isDone 614 = .ok (.iastore, 1) := by decide +kernel
theorem dL_isDone_615 : decode cL_isDone 615 = .ok (.aload_n 0, 1) := by decide +kernel
theorem dL_isDone_616 : decode cL_isDone 616 = .ok (.bipush 6, 2) := by decide +kernel
theorem dL_isDone_618 : decode cL_isDone 618 = .ok (.iload 11, 2) := by decide +kernel
theorem dL_isDone_620 : decode cL_isDone 620 = .ok (.iconst 0, 1) := by decide +kernel
theorem dL_isDone_621 : decode cL_isDone 621 = .ok (.iconst 0, 1) := by decide +kernel
theorem dL_isDone_622 : decode cL_isDone 622 = .ok (.iconst 0, 1) := by decide +kernel
theorem dL_isDone_623 : decode cL_isDone 623 = .ok (.invokestatic 113, 3) := by decide +kernel
theorem dL_isDone_626 : decode cL_isDone 626 = .ok (.iload 12, 2) := by decide +kernel
theorem dL_isDone_628 : decode cL_isDone 628 = .ok (.if_icmp .ne 7, 3) := by decide +kernel
theorem dL_isDone_631 : decode cL_isDone 631 = .ok (.iconst 1, 1) := by decide +kernel
theorem dL_isDone_632 : decode cL_isDone 632 = .ok (.goto 4, 3) := by decide +kernel
theorem dL_isDone_635 : decode cL_isDone 635 = .ok (.iconst 0, 1) := by decide +kernel
theorem dL_isDone_636 : decode cL_isDone 636 = .ok (.ireturn, 1) := by decide +kernel
theorem dL_isDone_637 : decode cL_isDone 637 = .ok (.iload 7, 2) := by decide +kernel
theorem dL_isDone_639 : decode cL_isDone 639 = .ok (.bipush 36, 2) := by decide +kernel
theorem dL_isDone_641 : decode cL_isDone 641 = .ok (.if_icmp .ne 25, 3) := by decide +kernel
theorem dL_isDone_644 : decode cL_isDone 644 = .ok (.aload_n 0, 1) := by decide +kernel
theorem dL_isDone_645 : decode cL_isDone 645 = .ok (.bipush 7, 2) := by decide +kernel
theorem dL_isDone_647 : decode cL_isDone 647 = .ok (.bipush 101, 2) := by decide +kernel
theorem dL_isDone_649 : decode cL_isDone 649 = .ok (.iconst 0, 1) := by decide +kernel
theorem dL_isDone_650 : decode cL_isDone 650 = .ok (.iconst 0, 1) := by decide +kernel
theorem dL_isDone_651 : decode cL_isDone 651 = .ok (.iconst 0, 1) := by decide +kernel
theorem dL_isDone_652 : decode cL_isDone 652 = .ok (.invokestatic 113, 3) := by decide +kernel
theorem dL_isDone_655 : decode cL_isDone 655 = .ok (.bipush (-20), 2) := by decide +kernel
theorem dL_isDone_657 : decode cL_isDone 657 = .ok (.if_icmp .ne 7, 3) := by decide +kernel
theorem dL_isDone_660 : decode cL_isDone 660 = .ok (.iconst 1, 1) := by decide +kernel
theorem dL_isDone_661 : decode cL_isDone 661 = .ok (.goto 4, 3) := by decide +kernel
theorem dL_isDone_664 : decode cL_isDone 664 = .ok (.iconst 0, 1) := by decide +kernel
theorem dL_isDone_665 : decode cL_isDone 665 = .ok (.ireturn, 1) := by decide +kernel
theorem dL_isDone_666 : decode cL_isDone 666 = .ok (.aload 6, 2) := by decide +kernel
theorem dL_isDone_668 : decode cL_isDone 668 = .ok (.iconst 5, 1) := by decide +kernel
theorem dL_isDone_669 : decode cL_isDone 669 = .ok (.iaload, 1) := by decide +kernel
theorem dL_isDone_670 : decode cL_isDone 670 = .ok (.bipush 9, 2) := by decide +kernel
theorem dL_isDone_672 : decode cL_isDone 672 = .ok (.if_icmp .gt 34, 3) := by decide +kernel
theorem dL_isDone_675 : decode cL_isDone 675 = .ok (.aload_n 0, 1) := by decide +kernel
theorem dL_isDone_676 : decode cL_isDone 676 = .ok (.aload_n 3, 1) := by decide +kernel
theorem dL_isDone_677 : decode cL_isDone 677 = .ok (.aload 4, 2) := by decide +kernel
theorem dL_isDone_679 : decode cL_isDone 679 = .ok (.aload 5, 2) := by decide +kernel
theorem dL_isDone_681 : decode cL_isDone 681 = .ok (.aload 6, 2) := by decide +kernel
theorem dL_isDone_683 : decode cL_isDone 683 = .ok (.iload 9, 2) := by decide +kernel
theorem dL_isDone_685 : decode cL_isDone 685 = .ok (.iconst 3, 1) := by decide +kernel
theorem dL_isDone_686 : decode cL_isDone 686 = .ok (.irem, 1) := by decide +kernel
theorem dL_isDone_687 : decode cL_isDone 687 = .ok (.ifCond .ne 8, 3) := by decide +kernel
theorem dL_isDone_690 : decode cL_isDone 690 = .ok (.bipush 100, 2) := by decide +kernel
theorem dL_isDone_692 : decode cL_isDone 692 = .ok (.goto 8, 3) := by decide +kernel
theorem dL_isDone_695 : decode cL_isDone 695 = .ok (.iload 9, 2) := by decide +kernel
theorem dL_isDone_697 : decode cL_isDone 697 = .ok (.bipush 101, 2) := by decide +kernel
theorem dL_isDone_699 : decode cL_isDone 699 = .ok (.irem, 1) := by decide +kernel
theorem dL_isDone_700 : decode cL_isDone 700 = .ok (.invokestatic 137, 3) := by decide +kernel
theorem dL_isDone_703 : decode cL_isDone 703 = .ok (.ifCond .eq 7, 3) := by decide +kernel
theorem dL_isDone_706 : decode cL_isDone 706 = .ok (.iconst 1, 1) := by decide +kernel
theorem dL_isDone_707 : decode cL_isDone 707 = .ok (.goto 4, 3) := by decide +kernel
theorem dL_isDone_710 : decode cL_isDone 710 = .ok (.iconst 0, 1) := by decide +kernel
theorem dL_isDone_711 : decode cL_isDone 711 = .ok (.ireturn, 1) := by decide +kernel
set_option maxRecDepth 20000 in
theorem ggL_law_X5_init : GoodIn wsL_law wsX5_init := goodIn_r _ [6, 7, 8, 9, 3, 10, 11, 12, 13, 14, 15, 16, 17, 18, 19, 20, 21, 22, 23, 24, 25, 26, 27, 28, 29, 30, 31, 32, 33, 34, 35, 36, 37, 38, 39, 40, 41, 42, 43, 44, 45, 46, 47, 48, 49, 50, 51, 52, 390, 391, 392, 393, 394, 395, 396, 397, 398, 399, 400, 401, 402, 403, 404, 405, 406, 407, 408, 409, 410, 411, 412] (by decide +kernel) (by decide +kernel)
set_option maxRecDepth 20000 in
theorem gL_law_X5_init : GoodIn wsL_law (wsX5_init) := ggL_law_X5_init
set_option maxRecDepth 20000 in
theorem ggL_law_L_areLegs : GoodIn wsL_law wsL_areLegs := goodIn_ca (goodIn_ca (goodIn_r _ [56, 57, 58, 55, 59, 60, 61, 62, 63, 64, 2, 65, 66, 67, 68, 69, 70, 71, 72, 73, 74, 75, 76, 77, 25, 78, 79, 80, 81, 15, 82, 83, 84, 85, 86, 87, 88, 89, 90, 91, 92, 93, 94, 95, 96, 97, 27, 98, 99, 100, 101, 10, 102, 103, 104, 105, 106, 107, 108, 109, 110, 111, 12, 26, 112, 113, 114, 115, 116, 117, 118, 119, 120, 121, 122, 123, 124, 125, 126, 127, 128, 129, 130, 131, 132, 133, 134, 19, 13, 135, 18, 136, 137, 38, 39, 40, 41, 42, 43, 138, 139, 140, 141, 142, 143, 144, 145, 146, 147, 148, 149, 150, 151, 152, 153, 154, 37, 155, 156, 48, 47, 157, 158, 159, 160, 161, 162, 163, 164, 165, 166, 167, 168, 169, 170, 171, 172, 173, 174, 175, 176, 177, 178, 179, 180, 181, 182, 183, 184, 185, 186, 187, 188, 189, 190, 191, 192, 193, 194, 195, 196, 197, 198, 199, 200, 201, 202, 203, 204, 205, 206, 207, 28, 29, 30, 208, 209, 210, 211, 212, 213, 214, 215, 216, 217, 218, 219, 23, 220, 22, 221, 222, 52, 223, 224, 225, 226, 227, 228, 229, 230, 231, 232, 233, 234, 235, 236, 237, 238, 239, 240, 241, 242, 243, 244, 245, 246, 247, 248, 249, 250, 251, 252, 253, 254, 255, 256, 31, 257, 258, 259, 260, 261, 262, 263, 264, 24, 265, 266, 267, 268, 269, 270, 271, 272, 273, 390, 391, 392, 393, 394, 395, 396, 397, 398, 399, 400, 401, 402, 403, 413, 414, 415, 416, 417, 418, 419, 420, 421, 422, 423, 424, 404, 405, 406, 407, 408, 409, 411, 412, 410] (by decide +kernel) (by decide +kernel)) (goodIn_sub (fun _ h => List.mem_append_left _ (List.mem_append_left _ (List.mem_append_right _ h))) (by decide +kernel))) (goodIn_sub (fun _ h => List.mem_append_left _ (List.mem_append_right _ h)) (by decide +kernel))
set_option maxRecDepth 20000 in
theorem gL_law_L_areLegs : GoodIn wsL_law (va_wsS RL 141 yL_areLegs wsL_areLegs) := goodIn_app (goodIn_of _ (by decide +kernel)) ggL_law_L_areLegs
set_option maxRecDepth 20000 in
theorem ggL_law_L_areProducts : GoodIn wsL_law wsL_areProducts := goodIn_ca (goodIn_ca (goodIn_r _ [276, 57, 58, 55, 59, 60, 61, 62, 63, 64, 2, 65, 66, 67, 68, 69, 70, 71, 72, 73, 74, 75, 76, 77, 25, 78, 79, 80, 81, 15, 82, 83, 84, 85, 86, 87, 88, 89, 90, 91, 92, 93, 94, 95, 96, 97, 27, 98, 99, 100, 101, 10, 102, 103, 104, 105, 106, 107, 108, 109, 110, 111, 12, 26, 112, 113, 114, 115, 116, 117, 118, 119, 120, 121, 122, 123, 124, 125, 126, 127, 128, 129, 130, 131, 132, 133, 134, 19, 13, 135, 18, 136, 137, 38, 39, 40, 41, 42, 43, 138, 139, 140, 141, 142, 143, 144, 145, 146, 147, 148, 149, 150, 151, 152, 153, 154, 37, 155, 156, 48, 47, 157, 158, 159, 160, 161, 162, 163, 164, 165, 166, 167, 168, 169, 170, 171, 172, 173, 174, 175, 176, 177, 178, 179, 180, 181, 182, 183, 184, 185, 186, 187, 188, 189, 190, 191, 192, 193, 194, 195, 196, 197, 198, 199, 200, 201, 202, 203, 204, 205, 206, 207, 28, 29, 30, 208, 209, 210, 211, 390, 391, 392, 393, 394, 395, 396, 397, 398, 399, 400, 401, 402, 403, 413, 414, 415, 416, 417, 418, 419, 420, 421, 422, 423, 424, 404, 405, 406, 407, 408, 409, 411, 412] (by decide +kernel) (by decide +kernel)) (goodIn_sub (fun _ h => List.mem_append_left _ (List.mem_append_left _ (List.mem_append_right _ h))) (by decide +kernel))) (goodIn_sub (fun _ h => List.mem_append_left _ (List.mem_append_right _ h)) (by decide +kernel))
set_option maxRecDepth 20000 in
theorem gL_law_L_areProducts : GoodIn wsL_law (va_wsS RL 144 yL_areProducts wsL_areProducts) := goodIn_app (goodIn_of _ (by decide +kernel)) ggL_law_L_areProducts
set_option maxRecDepth 20000 in
theorem ggL_law_L_isDone : GoodIn wsL_law wsL_isDone := goodIn_ca (goodIn_ca (goodIn_ca (goodIn_r _ [279, 280, 281, 55, 282, 283, 284, 285, 286, 60, 61, 287, 288, 289, 290, 291, 292, 293, 2, 294, 106, 107, 71, 72, 73, 295, 296, 297, 298, 10, 299, 300, 301, 302, 66, 67, 303, 304, 24, 11, 305, 113, 26, 68, 69, 70, 306, 307, 308, 309, 12, 310, 311, 312, 8, 9, 3, 121, 148, 149, 313, 116, 117, 122, 314, 315, 316, 317, 13, 318, 319, 320, 321, 196, 197, 198, 199, 322, 323, 324, 325, 27, 326, 327, 328, 329, 25, 14, 330, 83, 331, 332, 333, 334, 74, 75, 76, 77, 78, 79, 80, 81, 15, 82, 84, 85, 86, 87, 88, 89, 94, 95, 96, 97, 98, 99, 100, 101, 335, 336, 337, 338, 28, 29, 30, 339, 340, 341, 342, 108, 109, 110, 111, 112, 114, 115, 118, 119, 120, 127, 128, 129, 130, 131, 132, 133, 134, 19, 135, 18, 136, 137, 38, 39, 40, 41, 42, 43, 138, 139, 140, 141, 142, 143, 144, 145, 146, 147, 150, 151, 152, 153, 154, 37, 155, 156, 48, 47, 157, 158, 159, 160, 161, 162, 163, 164, 165, 166, 167, 168, 169, 170, 171, 172, 173, 174, 175, 176, 177, 178, 179, 343, 344, 345, 346, 347, 348, 349, 350, 351, 352, 353, 354, 184, 185, 186, 187, 188, 189, 190, 191, 355, 356, 357, 358, 359, 360, 361, 362, 31, 363, 364, 365, 366, 249, 250, 251, 252, 367, 368, 369, 370, 371, 372, 373, 374, 375, 376, 377, 261, 262, 263, 264, 378, 379, 380, 268, 269, 270, 265, 266, 267, 271, 272, 273, 123, 124, 125, 126, 381, 382, 383, 384, 385, 386, 180, 181, 182, 183, 387, 388, 389, 390, 391, 392, 393, 394, 395, 396, 397, 398, 399, 400, 401, 402, 403, 418, 419, 420, 421, 422, 423, 424, 413, 414, 415, 416, 417, 404, 405, 406, 407, 408, 409, 411, 412] (by decide +kernel) (by decide +kernel)) (goodIn_sub (fun _ h => List.mem_append_left _ (List.mem_append_right _ h)) (by decide +kernel))) (goodIn_sub (fun _ h => List.mem_append_left _ (List.mem_append_left _ (List.mem_append_right _ h))) (by decide +kernel))) (goodIn_sub (fun _ h => List.mem_append_right _ h) (by decide +kernel))
set_option maxRecDepth 20000 in
theorem gL_law_L_isDone : GoodIn wsL_law (va_wsS RL 148 yL_isDone wsL_isDone) := goodIn_app (goodIn_of _ (by decide +kernel)) ggL_law_L_isDone
set_option maxRecDepth 20000 in
theorem ggL_law_L_part : GoodIn wsL_law wsL_part := goodIn_r _ [282, 283] (by decide +kernel) (by decide +kernel)
set_option maxRecDepth 20000 in
theorem gL_law_L_part : GoodIn wsL_law (va_wsS RL 121 yL_part wsL_part) := goodIn_app (goodIn_of _ (by decide +kernel)) ggL_law_L_part
set_option maxRecDepth 20000 in
theorem ggL_law_L_does : GoodIn wsL_law wsL_does := goodIn_ca (goodIn_ca (goodIn_ca (goodIn_r _ [286, 60, 61, 287, 288, 289, 55, 290, 291, 292, 293, 2, 294, 106, 107, 71, 72, 73, 295, 296, 297, 298, 10, 299, 300, 301, 302, 66, 67, 303, 304, 24, 11, 305, 113, 26, 68, 69, 70, 306, 307, 308, 309, 12, 310, 311, 312, 8, 9, 3, 121, 148, 149, 313, 116, 117, 122, 314, 315, 316, 317, 13, 318, 319, 320, 321, 196, 197, 198, 199, 322, 323, 324, 325, 27, 326, 327, 328, 329, 25, 14, 330, 83, 331, 332, 333, 334, 74, 75, 76, 77, 78, 79, 80, 81, 15, 82, 84, 85, 86, 87, 88, 89, 94, 95, 96, 97, 98, 99, 100, 101, 335, 336, 337, 338, 28, 29, 30, 339, 340, 341, 342, 108, 109, 110, 111, 112, 114, 115, 118, 119, 120, 127, 128, 129, 130, 131, 132, 133, 134, 19, 135, 18, 136, 137, 38, 39, 40, 41, 42, 43, 138, 139, 140, 141, 142, 143, 144, 145, 146, 147, 150, 151, 152, 153, 154, 37, 155, 156, 48, 47, 157, 158, 159, 160, 161, 162, 163, 164, 165, 166, 167, 168, 169, 170, 171, 172, 173, 174, 175, 176, 177, 178, 179, 343, 344, 345, 346, 347, 348, 349, 350, 351, 352, 353, 354, 184, 185, 186, 187, 188, 189, 190, 191, 355, 356, 357, 358, 359, 360, 361, 362, 31, 363, 364, 365, 366, 249, 250, 251, 252, 367, 368, 369, 370, 371, 372, 373, 374, 390, 391, 392, 393, 394, 395, 396, 397, 398, 399, 400, 401, 402, 403, 418, 419, 420, 421, 422, 423, 424, 413, 414, 415, 416, 417, 404, 405, 406, 407, 408, 409, 411, 412] (by decide +kernel) (by decide +kernel)) (goodIn_sub (fun _ h => List.mem_append_left _ (List.mem_append_right _ h)) (by decide +kernel))) (goodIn_sub (fun _ h => List.mem_append_left _ (List.mem_append_left _ (List.mem_append_right _ h))) (by decide +kernel))) (goodIn_sub (fun _ h => List.mem_append_right _ h) (by decide +kernel))
set_option maxRecDepth 20000 in
theorem gL_law_L_does : GoodIn wsL_law (va_wsS RL 113 yL_does wsL_does) := goodIn_app (goodIn_of _ (by decide +kernel)) ggL_law_L_does
set_option maxRecDepth 20000 in
theorem ggL_law_L_asks : GoodIn wsL_law wsL_asks := goodIn_ca (goodIn_ca (goodIn_r _ [59, 60, 61, 62, 63, 64, 2, 65, 66, 67, 68, 69, 70, 71, 72, 73, 74, 75, 76, 77, 25, 78, 79, 80, 81, 15, 82, 83, 84, 85, 86, 87, 88, 89, 90, 91, 92, 93, 94, 95, 96, 97, 27, 98, 99, 100, 101, 10, 102, 103, 104, 105, 106, 107, 108, 109, 110, 111, 12, 26, 112, 113, 114, 115, 116, 117, 118, 119, 120, 121, 122, 123, 124, 125, 126, 127, 128, 129, 130, 131, 132, 133, 134, 19, 13, 135, 18, 136, 137, 38, 39, 40, 41, 42, 43, 138, 139, 140, 141, 142, 143, 144, 145, 146, 147, 148, 149, 150, 151, 152, 153, 154, 37, 155, 156, 48, 47, 157, 158, 159, 160, 161, 162, 163, 164, 165, 166, 167, 168, 169, 170, 171, 172, 173, 174, 175, 176, 177, 178, 179, 180, 181, 182, 183, 184, 185, 186, 187, 188, 189, 190, 191, 192, 193, 194, 195, 196, 197, 198, 199, 200, 201, 202, 203, 204, 205, 206, 207, 28, 29, 30, 208, 209, 210, 211, 390, 391, 392, 393, 394, 395, 396, 397, 398, 399, 400, 401, 402, 403, 413, 414, 415, 416, 417, 418, 419, 420, 421, 422, 423, 424, 404, 405, 406, 407, 408, 409, 411, 412] (by decide +kernel) (by decide +kernel)) (goodIn_sub (fun _ h => List.mem_append_left _ (List.mem_append_left _ (List.mem_append_right _ h))) (by decide +kernel))) (goodIn_sub (fun _ h => List.mem_append_left _ (List.mem_append_right _ h)) (by decide +kernel))
set_option maxRecDepth 20000 in
theorem gL_law_L_asks : GoodIn wsL_law (va_wsS RL 79 yL_asks wsL_asks) := goodIn_app (goodIn_of _ (by decide +kernel)) ggL_law_L_asks
theorem dL_law_0 : decode cL_law 0 = .ok (.new 9, 3) := by decide +kernel
theorem dL_law_3 : decode cL_law 3 = .ok (.dup, 1) := by decide +kernel
theorem dL_law_4 : decode cL_law 4 = .ok (.invokespecial 140, 3) := by decide +kernel
theorem dL_law_7 : decode cL_law 7 = .ok (.astore_n 1, 1) := by decide +kernel
theorem dL_law_8 : decode cL_law 8 = .ok (.bipush 36, 2) := by decide +kernel
theorem dL_law_10 : decode cL_law 10 = .ok (.newarray .int, 2) := by decide +kernel
theorem dL_law_12 : decode cL_law 12 = .ok (.astore_n 2, 1) := by decide +kernel
theorem dL_law_13 : decode cL_law 13 = .ok (.bipush 60, 2) := by decide +kernel
theorem dL_law_15 : decode cL_law 15 = .ok (.newarray .int, 2) := by decide +kernel
theorem dL_law_17 : decode cL_law 17 = .ok (.astore_n 3, 1) := by decide +kernel
theorem dL_law_18 : decode cL_law 18 = .ok (.bipush 40, 2) := by decide +kernel
theorem dL_law_20 : decode cL_law 20 = .ok (.newarray .int, 2) := by decide +kernel
theorem dL_law_22 : decode cL_law 22 = .ok (.astore 4, 2) := by decide +kernel
theorem dL_law_24 : decode cL_law 24 = .ok (.bipush 11, 2) := by decide +kernel
theorem dL_law_26 : decode cL_law 26 = .ok (.newarray .int, 2) := by decide +kernel
theorem dL_law_28 : decode cL_law 28 = .ok (.astore 5, 2) := by decide +kernel
theorem dL_law_30 : decode cL_law 30 = .ok (.aload 5, 2) := by decide +kernel
theorem dL_law_32 : decode cL_law 32 = .ok (.iconst 3, 1) := by decide +kernel
theorem dL_law_33 : decode cL_law 33 = .ok (.bipush 100, 2) := by decide +kernel
theorem dL_law_35 : decode cL_law 35 = .ok (.iastore, 1) := by decide +kernel
theorem dL_law_36 : decode cL_law 36 = .ok (.aload_n 1, 1) := by decide +kernel
theorem dL_law_37 : decode cL_law 37 = .ok (.aload_n 2, 1) := by decide +kernel
theorem dL_law_38 : decode cL_law 38 = .ok (.aload_n 3, 1) := by decide +kernel
theorem dL_law_39 : decode cL_law 39 = .ok (.aload 4, 2) := by decide +kernel
theorem dL_law_41 : decode cL_law 41 = .ok (.aload 5, 2) := by decide +kernel
theorem dL_law_43 : decode cL_law 43 = .ok (.iconst 1, 1) := by decide +kernel
theorem dL_law_44 : decode cL_law 44 = .ok (.invokestatic 141, 3) := by decide +kernel
theorem dL_law_47 : decode cL_law 47 = .ok (.ifCond .eq 17, 3) := by decide +kernel
theorem dL_law_50 : decode cL_law 50 = .ok (.aload_n 1, 1) := by decide +kernel
theorem dL_law_51 : decode cL_law 51 = .ok (.aload_n 2, 1) := by decide +kernel
theorem dL_law_52 : decode cL_law 52 = .ok (.aload 5, 2) := by decide +kernel
theorem dL_law_54 : decode cL_law 54 = .ok (.invokestatic 144, 3) := by decide +kernel
theorem dL_law_57 : decode cL_law 57 = .ok (.ifCond .eq 7, 3) := by decide +kernel
theorem dL_law_60 : decode cL_law 60 = .ok (.iconst 1, 1) := by decide +kernel
theorem dL_law_61 : decode cL_law 61 = .ok (.goto 4, 3) := by decide +kernel
theorem dL_law_64 : decode cL_law 64 = .ok (.iconst 0, 1) := by decide +kernel
theorem dL_law_65 : decode cL_law 65 = .ok (.istore 6, 2) := by decide +kernel
theorem dL_law_67 : decode cL_law 67 = .ok (.iconst 0, 1) := by decide +kernel
theorem dL_law_68 : decode cL_law 68 = .ok (.istore 7, 2) := by decide +kernel
theorem dL_law_70 : decode cL_law 70 = .ok (.iload 7, 2) := by decide +kernel
theorem dL_law_72 : decode cL_law 72 = .ok (.bipush 58, 2) := by decide +kernel
theorem dL_law_74 : decode cL_law 74 = .ok (.if_icmp .ge 77, 3) := by decide +kernel
theorem dL_law_77 : decode cL_law 77 = .ok (.iload 6, 2) := by decide +kernel
theorem dL_law_79 : decode cL_law 79 = .ok (.ifCond .eq 72, 3) := by decide +kernel
theorem dL_law_82 : decode cL_law 82 = .ok (.aload_n 1, 1) := by decide +kernel
theorem dL_law_83 : decode cL_law 83 = .ok (.aload_n 0, 1) := by decide +kernel
theorem dL_law_84 : decode cL_law 84 = .ok (.iconst 4, 1) := by decide +kernel
theorem dL_law_85 : decode cL_law 85 = .ok (.iload 7, 2) := by decide +kernel
theorem dL_law_87 : decode cL_law 87 = .ok (.imul, 1) := by decide +kernel
theorem dL_law_88 : decode cL_law 88 = .ok (.aload_n 2, 1) := by decide +kernel
theorem dL_law_89 : decode cL_law 89 = .ok (.aload_n 3, 1) := by decide +kernel
theorem dL_law_90 : decode cL_law 90 = .ok (.aload 4, 2) := by decide +kernel
theorem dL_law_92 : decode cL_law 92 = .ok (.aload 5, 2) := by decide +kernel
theorem dL_law_94 : decode cL_law 94 = .ok (.invokestatic 148, 3) := by decide +kernel
theorem dL_law_97 : decode cL_law 97 = .ok (.ifCond .eq 45, 3) := by decide +kernel
theorem dL_law_100 : decode cL_law 100 = .ok (.aload_n 1, 1) := by decide +kernel
theorem dL_law_101 : decode cL_law 101 = .ok (.aload_n 2, 1) := by decide +kernel
theorem dL_law_102 : decode cL_law 102 = .ok (.aload_n 3, 1) := by decide +kernel
theorem dL_law_103 : decode cL_law 103 = .ok (.aload 4, 2) := by decide +kernel
theorem dL_law_105 : decode cL_law 105 = .ok (.aload 5, 2) := by decide +kernel
theorem dL_law_107 : decode cL_law 107 = .ok (.iconst 1, 1) := by decide +kernel
theorem dL_law_108 : decode cL_law 108 = .ok (.aload_n 0, 1) := by decide +kernel
theorem dL_law_109 : decode cL_law 109 = .ok (.iconst 4, 1) := by decide +kernel
theorem dL_law_110 : decode cL_law 110 = .ok (.iload 7, 2) := by decide +kernel
theorem dL_law_112 : decode cL_law 112 = .ok (.imul, 1) := by decide +kernel
theorem dL_law_113 : decode cL_law 113 = .ok (.iconst 1, 1) := by decide +kernel
theorem dL_law_114 : decode cL_law 114 = .ok (.iadd, 1) := by decide +kernel
theorem dL_law_115 : decode cL_law 115 = .ok (.sipush 250, 3) := by decide +kernel
theorem dL_law_118 : decode cL_law 118 = .ok (.invokestatic 121, 3) := by decide +kernel
theorem dL_law_121 : decode cL_law 121 = .ok (.iadd, 1) := by decide +kernel
theorem dL_law_122 : decode cL_law 122 = .ok (.invokestatic 141, 3) := by decide +kernel
theorem dL_law_125 : decode cL_law 125 = .ok (.ifCond .eq 17, 3) := by decide +kernel
theorem dL_law_128 : decode cL_law 128 = .ok (.aload_n 1, 1) := by decide +kernel
theorem dL_law_129 : decode cL_law 129 = .ok (.aload_n 2, 1) := by decide +kernel
theorem dL_law_130 : decode cL_law 130 = .ok (.aload 5, 2) := by decide +kernel
theorem dL_law_132 : decode cL_law 132 = .ok (.invokestatic 144, 3) := by decide +kernel
theorem dL_law_135 : decode cL_law 135 = .ok (.ifCond .eq 7, 3) := by decide +kernel
theorem dL_law_138 : decode cL_law 138 = .ok (.iconst 1, 1) := by decide +kernel
theorem dL_law_139 : decode cL_law 139 = .ok (.goto 4, 3) := by decide +kernel
theorem dL_law_142 : decode cL_law 142 = .ok (.iconst 0, 1) := by decide +kernel
theorem dL_law_143 : decode cL_law 143 = .ok (.istore 6, 2) := by decide +kernel
theorem dL_law_145 : decode cL_law 145 = .ok (.iinc 7 1, 3) := by decide +kernel
theorem dL_law_148 : decode cL_law 148 = .ok (.goto (-78), 3) := by decide +kernel
theorem dL_law_151 : decode cL_law 151 = .ok (.iload 6, 2) := by decide +kernel
theorem dL_law_153 : decode cL_law 153 = .ok (.ifCond .eq 165, 3) := by decide +kernel
theorem dL_law_156 : decode cL_law 156 = .ok (.aload_n 1, 1) := by decide +kernel
theorem dL_law_157 : decode cL_law 157 = .ok (.iconst 0, 1) := by decide +kernel
theorem dL_law_158 : decode cL_law 158 = .ok (.iconst (-1), 1) := by decide +kernel
theorem dL_law_159 : decode cL_law 159 = .ok (.iconst 0, 1) := by decide +kernel
theorem dL_law_160 : decode cL_law 160 = .ok (.iconst 0, 1) := by decide +kernel
theorem dL_law_161 : decode cL_law 161 = .ok (.iconst 0, 1) := by decide +kernel
theorem dL_law_162 : decode cL_law 162 = .ok (.invokestatic 113, 3) := by decide +kernel
theorem dL_law_165 : decode cL_law 165 = .ok (.bipush (-20), 2) := by decide +kernel
theorem dL_law_167 : decode cL_law 167 = .ok (.if_icmp .ne 151, 3) := by decide +kernel
theorem dL_law_170 : decode cL_law 170 = .ok (.aload_n 1, 1) := by decide +kernel
theorem dL_law_171 : decode cL_law 171 = .ok (.iconst 1, 1) := by decide +kernel
theorem dL_law_172 : decode cL_law 172 = .ok (.iconst (-1), 1) := by decide +kernel
theorem dL_law_173 : decode cL_law 173 = .ok (.iconst 0, 1) := by decide +kernel
theorem dL_law_174 : decode cL_law 174 = .ok (.iconst 0, 1) := by decide +kernel
theorem dL_law_175 : decode cL_law 175 = .ok (.iconst 0, 1) := by decide +kernel
theorem dL_law_176 : decode cL_law 176 = .ok (.invokestatic 113, 3) := by decide +kernel
theorem dL_law_179 : decode cL_law 179 = .ok (.bipush (-30), 2) := by decide +kernel
theorem dL_law_181 : decode cL_law 181 = .ok (.if_icmp .ne 137, 3) := by decide +kernel
theorem dL_law_184 : decode cL_law 184 = .ok (.aload_n 1, 1) := by decide +kernel
theorem dL_law_185 : decode cL_law 185 = .ok (.iconst 2, 1) := by decide +kernel
theorem dL_law_186 : decode cL_law 186 = .ok (.bipush 8, 2) := by decide +kernel
theorem dL_law_188 : decode cL_law 188 = .ok (.bipush 21, 2) := by decide +kernel
theorem dL_law_190 : decode cL_law 190 = .ok (.iconst 0, 1) := by decide +kernel
theorem dL_law_191 : decode cL_law 191 = .ok (.iconst 0, 1) := by decide +kernel
theorem dL_law_192 : decode cL_law 192 = .ok (.invokestatic 113, 3) := by decide +kernel
theorem dL_law_195 : decode cL_law 195 = .ok (.bipush (-30), 2) := by decide +kernel
