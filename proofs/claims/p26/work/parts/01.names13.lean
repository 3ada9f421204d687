set_option maxRecDepth 20000 in
theorem ggL_isGroup_L_does : GoodIn wsL_isGroup wsL_does := goodIn_ca (goodIn_ca (goodIn_ca (goodIn_r _ [4, 5, 6, 7, 8, 9, 3, 10, 11, 12, 13, 14, 15, 16, 17, 18, 19, 20, 21, 22, 23, 24, 25, 26, 27, 28, 29, 30, 31, 32, 33, 34, 35, 36, 37, 38, 39, 40, 41, 42, 43, 44, 45, 46, 47, 48, 49, 50, 51, 52, 53, 54, 55, 56, 57, 58, 59, 60, 61, 62, 63, 64, 65, 66, 67, 68, 69, 70, 71, 72, 73, 74, 75, 76, 77, 78, 79, 80, 81, 82, 83, 84, 85, 86, 87, 88, 89, 90, 91, 92, 93, 94, 95, 96, 97, 98, 99, 100, 101, 102, 103, 104, 105, 106, 107, 108, 109, 110, 111, 112, 113, 114, 115, 116, 117, 118, 119, 120, 121, 122, 123, 124, 125, 126, 127, 128, 129, 130, 131, 132, 133, 134, 135, 136, 137, 138, 139, 140, 141, 142, 143, 144, 145, 146, 147, 148, 149, 150, 151, 152, 153, 154, 155, 156, 157, 158, 159, 160, 161, 162, 163, 164, 165, 166, 167, 168, 169, 170, 171, 172, 173, 174, 175, 176, 177, 178, 179, 180, 181, 182, 183, 184, 185, 186, 187, 188, 189, 190, 191, 192, 193, 194, 195, 196, 197, 198, 199, 200, 201, 202, 203, 204, 205, 206, 207, 208, 209, 210, 211, 212, 213, 214, 215, 216, 217, 218, 219, 220, 221, 222, 223, 224, 225, 226, 227, 228, 229, 230, 231, 232, 233, 234, 235, 236, 237, 238, 239, 240, 241, 252, 253, 254, 255, 256, 257, 258, 259, 260, 261, 262, 263, 264, 265, 266, 267, 268, 269, 270, 271, 272, 273, 274, 275, 276, 277, 278, 279, 280, 281, 282, 283, 284, 285] (by decide +kernel) (by decide +kernel)) (goodIn_sub (fun _ h => List.mem_cons_of_mem _ (List.mem_append_left _ (List.mem_append_left _ (List.mem_append_right _ h)))) (by decide +kernel))) (goodIn_sub (fun _ h => List.mem_cons_of_mem _ (List.mem_append_left _ (List.mem_append_right _ h))) (by decide +kernel))) (goodIn_sub (fun _ h => List.mem_cons_of_mem _ (List.mem_append_right _ h)) (by decide +kernel))
set_option maxRecDepth 20000 in
theorem gL_isGroup_L_does : GoodIn wsL_isGroup (va_wsS RL 113 yL_does wsL_does) := goodIn_app (goodIn_of _ (by decide +kernel)) ggL_isGroup_L_does
set_option maxRecDepth 20000 in
theorem ggL_isGroup_L_booked : GoodIn wsL_isGroup wsL_booked := goodIn_r _ [244] (by decide +kernel) (by decide +kernel)
set_option maxRecDepth 20000 in
theorem gL_isGroup_L_booked : GoodIn wsL_isGroup (va_wsS RL 103 yL_booked wsL_booked) := goodIn_app (goodIn_of _ (by decide +kernel)) ggL_isGroup_L_booked
set_option maxRecDepth 20000 in
theorem ggL_isGroup_X5_displaced : GoodIn wsL_isGroup wsX5_displaced := goodIn_ca (goodIn_ca (goodIn_r _ [248, 30, 31, 16, 17, 39, 40, 14, 41, 18, 19, 20, 209, 210, 211, 212, 174, 175, 176, 177, 178, 165, 166, 167, 110, 111, 112, 113, 25, 90, 91, 92, 93, 82, 94, 95, 96, 97, 98, 99, 85, 100, 101, 102, 103, 104, 105, 213, 214, 215, 216, 139, 140, 141, 142, 143, 64, 144, 145, 146, 147, 148, 149, 150, 151, 152, 153, 154, 155, 156, 157, 158, 159, 160, 161, 37, 162, 163, 54, 55, 164, 168, 169, 170, 171, 172, 173, 179, 180, 181, 182, 183, 184, 185, 186, 187, 188, 189, 190, 191, 192, 193, 194, 195, 196, 252, 253, 254, 255, 256, 257, 258, 259, 260, 261, 262, 263, 264, 265, 273, 274, 275, 276, 277, 278, 279, 280, 281, 282, 283, 284, 285, 266, 267, 268, 269, 270, 271, 272] (by decide +kernel) (by decide +kernel)) (goodIn_sub (fun _ h => List.mem_cons_of_mem _ (List.mem_append_left _ (List.mem_append_right _ h))) (by decide +kernel))) (goodIn_sub (fun _ h => List.mem_cons_of_mem _ (List.mem_append_left _ (List.mem_append_left _ (List.mem_append_right _ h)))) (by decide +kernel))
set_option maxRecDepth 20000 in
theorem gL_isGroup_X5_displaced : GoodIn wsL_isGroup (wsV RL 63 RX5 yX5_displaced wsX5_displaced) := goodIn_app (goodIn_of _ (by decide +kernel)) ggL_isGroup_X5_displaced
set_option maxRecDepth 20000 in
theorem ggL_isGroup_L_books : GoodIn wsL_isGroup wsL_books := goodIn_r _ [251] (by decide +kernel) (by decide +kernel)
set_option maxRecDepth 20000 in
theorem gL_isGroup_L_books : GoodIn wsL_isGroup (va_wsS RL 117 yL_books wsL_books) := goodIn_app (goodIn_of _ (by decide +kernel)) ggL_isGroup_L_books
theorem dL_isGroup_0 : decode cL_isGroup 0 = .ok (.iload_n 3, 1) := by decide +kernel
theorem dL_isGroup_1 : decode cL_isGroup 1 = .ok (.iconst 3, 1) := by decide +kernel
theorem dL_isGroup_2 : decode cL_isGroup 2 = .ok (.if_icmp .ge 13, 3) := by decide +kernel
theorem dL_isGroup_5 : decode cL_isGroup 5 = .ok (.iload 4, 2) := by decide +kernel
theorem dL_isGroup_7 : decode cL_isGroup 7 = .ok (.iconst 3, 1) := by decide +kernel
theorem dL_isGroup_8 : decode cL_isGroup 8 = .ok (.if_icmp .ge 7, 3) := by decide +kernel
theorem dL_isGroup_11 : decode cL_isGroup 11 = .ok (.iconst 1, 1) := by decide +kernel
theorem dL_isGroup_12 : decode cL_isGroup 12 = .ok (.goto 4, 3) := by decide +kernel
theorem dL_isGroup_15 : decode cL_isGroup 15 = .ok (.iconst 0, 1) := by decide +kernel
theorem dL_isGroup_16 : decode cL_isGroup 16 = .ok (.istore 7, 2) := by decide +kernel
theorem dL_isGroup_18 : decode cL_isGroup 18 = .ok (.iload 4, 2) := by decide +kernel
theorem dL_isGroup_20 : decode cL_isGroup 20 = .ok (.iload_n 3, 1) := by decide +kernel
theorem dL_isGroup_21 : decode cL_isGroup 21 = .ok (.if_icmp .lt 32, 3) := by decide +kernel
theorem dL_isGroup_24 : decode cL_isGroup 24 = .ok (.iload 5, 2) := by decide +kernel
theorem dL_isGroup_26 : decode cL_isGroup 26 = .ok (.ifCond .le 27, 3) := by decide +kernel
theorem dL_isGroup_29 : decode cL_isGroup 29 = .ok (.iload 5, 2) := by decide +kernel
theorem dL_isGroup_31 : decode cL_isGroup 31 = .ok (.bipush 11, 2) := by decide +kernel
theorem dL_isGroup_33 : decode cL_isGroup 33 = .ok (.if_icmp .ge 20, 3) := by decide +kernel
theorem dL_isGroup_36 : decode cL_isGroup 36 = .ok (.iload 6, 2) := by decide +kernel
theorem dL_isGroup_38 : decode cL_isGroup 38 = .ok (.ifCond .le 15, 3) := by decide +kernel
theorem dL_isGroup_41 : decode cL_isGroup 41 = .ok (.iload 6, 2) := by decide +kernel
theorem dL_isGroup_43 : decode cL_isGroup 43 = .ok (.sipush 3001, 3) := by decide +kernel
theorem dL_isGroup_46 : decode cL_isGroup 46 = .ok (.if_icmp .ge 7, 3) := by decide +kernel
theorem dL_isGroup_49 : decode cL_isGroup 49 = .ok (.iconst 1, 1) := by decide +kernel
theorem dL_isGroup_50 : decode cL_isGroup 50 = .ok (.goto 4, 3) := by decide +kernel
theorem dL_isGroup_53 : decode cL_isGroup 53 = .ok (.iconst 0, 1) := by decide +kernel
theorem dL_isGroup_54 : decode cL_isGroup 54 = .ok (.istore 8, 2) := by decide +kernel
theorem dL_isGroup_56 : decode cL_isGroup 56 = .ok (.iload 7, 2) := by decide +kernel
theorem dL_isGroup_58 : decode cL_isGroup 58 = .ok (.ifCond .eq 8, 3) := by decide +kernel
theorem dL_isGroup_61 : decode cL_isGroup 61 = .ok (.iload 8, 2) := by decide +kernel
theorem dL_isGroup_63 : decode cL_isGroup 63 = .ok (.ifCond .ne 36, 3) := by decide +kernel
theorem dL_isGroup_66 : decode cL_isGroup 66 = .ok (.aload_n 0, 1) := by decide +kernel
theorem dL_isGroup_67 : decode cL_isGroup 67 = .ok (.iconst 5, 1) := by decide +kernel
theorem dL_isGroup_68 : decode cL_isGroup 68 = .ok (.iload_n 3, 1) := by decide +kernel
theorem dL_isGroup_69 : decode cL_isGroup 69 = .ok (.iload 4, 2) := by decide +kernel
theorem dL_isGroup_71 : decode cL_isGroup 71 = .ok (.iload 5, 2) := by decide +kernel
theorem dL_isGroup_73 : decode cL_isGroup 73 = .ok (.iload 6, 2) := by decide +kernel
theorem dL_isGroup_75 : decode cL_isGroup 75 = .ok (.invokestatic 113, 3) := by decide +kernel
theorem dL_isGroup_78 : decode cL_isGroup 78 = .ok (.iload 7, 2) := by decide +kernel
theorem dL_isGroup_80 : decode cL_isGroup 80 = .ok (.ifCond .eq 8, 3) := by decide +kernel
theorem dL_isGroup_83 : decode cL_isGroup 83 = .ok (.bipush (-20), 2) := by decide +kernel
theorem dL_isGroup_85 : decode cL_isGroup 85 = .ok (.goto 5, 3) := by decide +kernel
theorem dL_isGroup_88 : decode cL_isGroup 88 = .ok (.bipush (-30), 2) := by decide +kernel
theorem dL_isGroup_90 : decode cL_isGroup 90 = .ok (.if_icmp .ne 7, 3) := by decide +kernel
theorem dL_isGroup_93 : decode cL_isGroup 93 = .ok (.iconst 1, 1) := by decide +kernel
theorem dL_isGroup_94 : decode cL_isGroup 94 = .ok (.goto 4, 3) := by decide +kernel
theorem dL_isGroup_97 : decode cL_isGroup 97 = .ok (.iconst 0, 1) := by decide +kernel
theorem dL_isGroup_98 : decode cL_isGroup 98 = .ok (.ireturn, 1) := by decide +kernel
theorem dL_isGroup_99 : decode cL_isGroup 99 = .ok (.iconst 0, 1) := by decide +kernel
theorem dL_isGroup_100 : decode cL_isGroup 100 = .ok (.istore 9, 2) := by decide +kernel
theorem dL_isGroup_102 : decode cL_isGroup 102 = .ok (.iload_n 3, 1) := by decide +kernel
theorem dL_isGroup_103 : decode cL_isGroup 103 = .ok (.istore 10, 2) := by decide +kernel
theorem dL_isGroup_105 : decode cL_isGroup 105 = .ok (.iload 10, 2) := by decide +kernel
theorem dL_isGroup_107 : decode cL_isGroup 107 = .ok (.iload 4, 2) := by decide +kernel
theorem dL_isGroup_109 : decode cL_isGroup 109 = .ok (.if_icmp .gt 38, 3) := by decide +kernel
theorem dL_isGroup_112 : decode cL_isGroup 112 = .ok (.iload 9, 2) := by decide +kernel
theorem dL_isGroup_114 : decode cL_isGroup 114 = .ok (.ifCond .ne 20, 3) := by decide +kernel
theorem dL_isGroup_117 : decode cL_isGroup 117 = .ok (.aload_n 2, 1) := by decide +kernel
theorem dL_isGroup_118 : decode cL_isGroup 118 = .ok (.iload 10, 2) := by decide +kernel
theorem dL_isGroup_120 : decode cL_isGroup 120 = .ok (.iaload, 1) := by decide +kernel
theorem dL_isGroup_121 : decode cL_isGroup 121 = .ok (.aload_n 1, 1) := by decide +kernel
theorem dL_isGroup_122 : decode cL_isGroup 122 = .ok (.aload_n 2, 1) := by decide +kernel
theorem dL_isGroup_123 : decode cL_isGroup 123 = .ok (.iload 10, 2) := by decide +kernel
theorem dL_isGroup_125 : decode cL_isGroup 125 = .ok (.invokestatic 103, 3) := by decide +kernel
theorem dL_isGroup_128 : decode cL_isGroup 128 = .ok (.isub, 1) := by decide +kernel
theorem dL_isGroup_129 : decode cL_isGroup 129 = .ok (.iload 5, 2) := by decide +kernel
theorem dL_isGroup_131 : decode cL_isGroup 131 = .ok (.if_icmp .ge 7, 3) := by decide +kernel
theorem dL_isGroup_134 : decode cL_isGroup 134 = .ok (.iconst 1, 1) := by decide +kernel
theorem dL_isGroup_135 : decode cL_isGroup 135 = .ok (.goto 4, 3) := by decide +kernel
theorem dL_isGroup_138 : decode cL_isGroup 138 = .ok (.iconst 0, 1) := by decide +kernel
theorem dL_isGroup_139 : decode cL_isGroup 139 = .ok (.istore 9, 2) := by decide +kernel
theorem dL_isGroup_141 : decode cL_isGroup 141 = .ok (.iinc 10 1, 3) := by decide +kernel
theorem dL_isGroup_144 : decode cL_isGroup 144 = .ok (.goto (-39), 3) := by decide +kernel
theorem dL_isGroup_147 : decode cL_isGroup 147 = .ok (.aload_n 0, 1) := by decide +kernel
theorem dL_isGroup_148 : decode cL_isGroup 148 = .ok (.iload_n 3, 1) := by decide +kernel
theorem dL_isGroup_149 : decode cL_isGroup 149 = .ok (.iload 4, 2) := by decide +kernel
theorem dL_isGroup_151 : decode cL_isGroup 151 = .ok (.iload 5, 2) := by decide +kernel
theorem dL_isGroup_153 : decode cL_isGroup 153 = .ok (.invokevirtual 63, 3) := by decide +kernel
theorem dL_isGroup_156 : decode cL_isGroup 156 = .ok (.istore 10, 2) := by decide +kernel
theorem dL_isGroup_158 : decode cL_isGroup 158 = .ok (.aload_n 0, 1) := by decide +kernel
theorem dL_isGroup_159 : decode cL_isGroup 159 = .ok (.iconst 5, 1) := by decide +kernel
theorem dL_isGroup_160 : decode cL_isGroup 160 = .ok (.iload_n 3, 1) := by decide +kernel
theorem dL_isGroup_161 : decode cL_isGroup 161 = .ok (.iload 4, 2) := by decide +kernel
theorem dL_isGroup_163 : decode cL_isGroup 163 = .ok (.iload 5, 2) := by decide +kernel
theorem dL_isGroup_165 : decode cL_isGroup 165 = .ok (.iload 6, 2) := by decide +kernel
theorem dL_isGroup_167 : decode cL_isGroup 167 = .ok (.invokestatic 113, 3) := by decide +kernel
theorem dL_isGroup_170 : decode cL_isGroup 170 = .ok (.istore 11, 2) := by decide +kernel
theorem dL_isGroup_172 : decode cL_isGroup 172 = .ok (.iload 11, 2) := by decide +kernel
theorem dL_isGroup_174 : decode cL_isGroup 174 = .ok (.ifCond .ge 17, 3) := by decide +kernel
theorem dL_isGroup_177 : decode cL_isGroup 177 = .ok (.aload_n 2, 1) := by decide +kernel
theorem dL_isGroup_178 : decode cL_isGroup 178 = .ok (.bipush 6, 2) := by decide +kernel
theorem dL_isGroup_180 : decode cL_isGroup 180 = .ok (.iload 11, 2) := by decide +kernel
theorem dL_isGroup_182 : decode cL_isGroup 182 = .ok (.isub, 1) := by decide +kernel
theorem dL_isGroup_183 : decode cL_isGroup 183 = .ok (.dup2, 1) := by decide +kernel
theorem dL_isGroup_184 : decode cL_isGroup 184 = .ok (.iaload, 1) := by decide +kernel
theorem dL_isGroup_185 : decode cL_isGroup 185 = .ok (.iconst 1, 1) := by decide +kernel
theorem dL_isGroup_186 : decode cL_isGroup 186 = .ok (.iadd, 1) := by decide +kernel
theorem dL_isGroup_187 : decode cL_isGroup 187 = .ok (.iastore, 1) := by decide +kernel
theorem dL_isGroup_188 : decode cL_isGroup 188 = .ok (.goto 18, 3) := by decide +kernel
theorem dL_isGroup_191 : decode cL_isGroup 191 = .ok (.aload_n 1, 1) := by decide +kernel
theorem dL_isGroup_192 : decode cL_isGroup 192 = .ok (.aload_n 2, 1) := by decide +kernel
theorem dL_isGroup_193 : decode cL_isGroup 193 = .ok (.iload_n 3, 1) := by decide +kernel
theorem dL_isGroup_194 : decode cL_isGroup 194 = .ok (.iload 4, 2) := by decide +kernel
theorem dL_isGroup_196 : decode cL_isGroup 196 = .ok (.iload 5, 2) := by decide +kernel
theorem dL_isGroup_198 : decode cL_isGroup 198 = .ok (.iload 6, 2) := by decide +kernel
theorem dL_isGroup_200 : decode cL_isGroup 200 = .ok (.iload 5, 2) := by decide +kernel
theorem dL_isGroup_202 : decode cL_isGroup 202 = .ok (.imul, 1) := by decide +kernel
theorem dL_isGroup_203 : decode cL_isGroup 203 = .ok (.invokestatic 117, 3) := by decide +kernel
theorem dL_isGroup_206 : decode cL_isGroup 206 = .ok (.iload 9, 2) := by decide +kernel
theorem dL_isGroup_208 : decode cL_isGroup 208 = .ok (.ifCond .eq 23, 3) := by decide +kernel
theorem dL_isGroup_211 : decode cL_isGroup 211 = .ok (.iload 10, 2) := by decide +kernel
theorem dL_isGroup_213 : decode cL_isGroup 213 = .ok (.iconst (-1), 1) := by decide +kernel
theorem dL_isGroup_214 : decode cL_isGroup 214 = .ok (.if_icmp .ne 13, 3) := by decide +kernel
theorem dL_isGroup_217 : decode cL_isGroup 217 = .ok (.iload 11, 2) := by decide +kernel
theorem dL_isGroup_219 : decode cL_isGroup 219 = .ok (.iconst (-1), 1) := by decide +kernel
theorem dL_isGroup_220 : decode cL_isGroup 220 = .ok (.if_icmp .ne 7, 3) := by decide +kernel
theorem dL_isGroup_223 : decode cL_isGroup 223 = .ok (.iconst 1, 1) := by decide +kernel
theorem dL_isGroup_224 : decode cL_isGroup 224 = .ok (.goto 43, 3) := by decide +kernel
theorem dL_isGroup_227 : decode cL_isGroup 227 = .ok (.iconst 0, 1) := by decide +kernel
theorem dL_isGroup_228 : decode cL_isGroup 228 = .ok (.goto 39, 3) := by decide +kernel
theorem dL_isGroup_231 : decode cL_isGroup 231 = .ok (.iload 10, 2) := by decide +kernel
theorem dL_isGroup_233 : decode cL_isGroup 233 = .ok (.ifCond .lt 33, 3) := by decide +kernel
theorem dL_isGroup_236 : decode cL_isGroup 236 = .ok (.iload 11, 2) := by decide +kernel
theorem dL_isGroup_238 : decode cL_isGroup 238 = .ok (.iload 6, 2) := by decide +kernel
theorem dL_isGroup_240 : decode cL_isGroup 240 = .ok (.iload 5, 2) := by decide +kernel
theorem dL_isGroup_242 : decode cL_isGroup 242 = .ok (.imul, 1) := by decide +kernel
theorem dL_isGroup_243 : decode cL_isGroup 243 = .ok (.iload 10, 2) := by decide +kernel
theorem dL_isGroup_245 : decode cL_isGroup 245 = .ok (.if_icmp .ge 8, 3) := by decide +kernel
theorem dL_isGroup_248 : decode cL_isGroup 248 = .ok (.bipush (-3), 2) := by decide +kernel
theorem dL_isGroup_250 : decode cL_isGroup 250 = .ok (.goto 9, 3) := by decide +kernel
theorem dL_isGroup_253 : decode cL_isGroup 253 = .ok (.aload_n 2, 1) := by decide +kernel
theorem dL_isGroup_254 : decode cL_isGroup 254 = .ok (.bipush 6, 2) := by decide +kernel
theorem dL_isGroup_256 : decode cL_isGroup 256 = .ok (.iaload, 1) := by decide +kernel
theorem dL_isGroup_257 : decode cL_isGroup 257 = .ok (.iconst 1, 1) := by decide +kernel
theorem dL_isGroup_258 : decode cL_isGroup 258 = .ok (.isub, 1) := by decide +kernel
theorem dL_isGroup_259 : decode cL_isGroup 259 = .ok (.if_icmp .ne 7, 3) := by decide +kernel
theorem dL_isGroup_262 : decode cL_isGroup 262 = .ok (.iconst 1, 1) := by decide +kernel
theorem dL_isGroup_263 : decode cL_isGroup 263 = .ok (.goto 4, 3) := by decide +kernel
theorem dL_isGroup_266 : decode cL_isGroup 266 = .ok (.iconst 0, 1) := by decide +kernel
theorem dL_isGroup_267 : decode cL_isGroup 267 = .ok (.ireturn, 1) := by decide +kernel
set_option maxRecDepth 20000 in
theorem ggL_isEnd_L_booked : GoodIn wsL_isEnd wsL_booked := goodIn_r _ [4] (by decide +kernel) (by decide +kernel)
set_option maxRecDepth 20000 in
theorem gL_isEnd_L_booked : GoodIn wsL_isEnd (va_wsS RL 103 yL_booked wsL_booked) := goodIn_app (goodIn_of _ (by decide +kernel)) ggL_isEnd_L_booked
