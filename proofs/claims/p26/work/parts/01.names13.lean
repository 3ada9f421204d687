theorem dL_isGroup_238 : decode cL_isGroup 238 = .ok (.iload 6, 2) := by decide +kernel
theorem dL_isGroup_240 : decode cL_isGroup 240 = .ok (.iload 5, 2) := by decide +kernel
theorem dL_isGroup_242 : decode cL_isGroup 242 = .ok (.imul, 1) := by decide +kernel
theorem dL_isGroup_243 : decode cL_isGroup 243 = .ok (.iload 10, 2) := by decide +kernel
theorem dL_isGroup_245 : decode cL_isGroup 245 = .ok (.if_icmp .ge 8, 3) := by decide +kernel
theorem dL_isGroup_248 : decode cL_isGroup 248 = .ok (.bipush (-3), 2) := by decide +kernel
theorem dL_isGroup_250 : decode cL_isGroup 250 = .ok (.goto 9, 3) := by decide +kernel
theorem dL_isGroup_253 : decode cL_isGroup 253 = .ok (.aload_n 2, 1) := by decide +kernel
theorem dL_isGroup_254 : decode cL_isGroup 254 = .ok (.bipush 6, 2) := by decide +kernel
theorem dL_isGroup_256 : decode cL_isGroup 256 = .ok (.iaload, 1) := by decide +kernel
theorem dL_isGroup_257 : decode cL_isGroup 257 = .ok (.iconst 1, 1) := by decide +kernel
theorem dL_isGroup_258 : decode cL_isGroup 258 = .ok (.isub, 1) := by decide +kernel
theorem dL_isGroup_259 : decode cL_isGroup 259 = .ok (.if_icmp .ne 7, 3) := by decide +kernel
theorem dL_isGroup_262 : decode cL_isGroup 262 = .ok (.iconst 1, 1) := by decide +kernel
theorem dL_isGroup_263 : decode cL_isGroup 263 = .ok (.goto 4, 3) := by decide +kernel
theorem dL_isGroup_266 : decode cL_isGroup 266 = .ok (.iconst 0, 1) := by decide +kernel
theorem dL_isGroup_267 : decode cL_isGroup 267 = .ok (.ireturn, 1) := by decide +kernel
set_option maxRecDepth 20000 in
theorem ggL_isEnd_L_booked : GoodIn wsL_isEnd wsL_booked := goodIn_r _ [4] (by decide +kernel) (by decide +kernel)
set_option maxRecDepth 20000 in
theorem gL_isEnd_L_booked : GoodIn wsL_isEnd (va_wsS RL 103 yL_booked wsL_booked) := goodIn_app (goodIn_of _ (by decide +kernel)) ggL_isEnd_L_booked
set_option maxRecDepth 20000 in
theorem ggL_isEnd_L_does_wsL_does_r1 : GoodIn wsL_isEnd wsL_does_r1 := goodIn_r _ [8, 9, 10, 11, 12, 3, 13, 14, 15, 16, 17, 18, 19, 20, 21, 22, 23, 24, 25, 26, 27, 28, 29, 30] (by decide +kernel) (by decide +kernel)
set_option maxRecDepth 20000 in
theorem ggL_isEnd_L_does_wsL_does_r2 : GoodIn wsL_isEnd wsL_does_r2 := goodIn_r _ [31, 32, 33, 34, 35, 36, 37, 38, 39, 40, 41, 42, 43, 44, 45, 46, 47, 48, 49, 50, 51, 52, 53, 54] (by decide +kernel) (by decide +kernel)
set_option maxRecDepth 20000 in
theorem ggL_isEnd_L_does_wsL_does_r3 : GoodIn wsL_isEnd wsL_does_r3 := goodIn_r _ [55, 56, 57, 58, 59, 60, 61, 62, 63, 64, 65, 66, 67, 68, 69, 70, 71, 72, 73, 74, 75, 76, 77, 78] (by decide +kernel) (by decide +kernel)
set_option maxRecDepth 20000 in
theorem ggL_isEnd_L_does_wsL_does_r4 : GoodIn wsL_isEnd wsL_does_r4 := goodIn_r _ [79, 80, 81, 82, 83, 84, 85, 86, 87, 88, 89, 90, 91, 92, 93, 94, 95, 96, 97, 98, 99, 100, 101, 102] (by decide +kernel) (by decide +kernel)
set_option maxRecDepth 20000 in
theorem ggL_isEnd_L_does_wsL_does_r5 : GoodIn wsL_isEnd wsL_does_r5 := goodIn_r _ [103, 104, 105, 106, 107, 108, 109, 110, 111, 112, 113, 114, 115, 116, 117, 118, 119, 120, 121, 122, 123, 124, 125, 126] (by decide +kernel) (by decide +kernel)
set_option maxRecDepth 20000 in
theorem ggL_isEnd_L_does_wsL_does_r6 : GoodIn wsL_isEnd wsL_does_r6 := goodIn_r _ [127, 128, 129, 130, 131, 132, 133, 134, 135, 136, 137, 138, 139, 140, 141, 142, 143, 144, 145, 146, 147, 148, 149, 150] (by decide +kernel) (by decide +kernel)
set_option maxRecDepth 20000 in
theorem ggL_isEnd_L_does_wsL_does_r7 : GoodIn wsL_isEnd wsL_does_r7 := goodIn_r _ [151, 152, 153, 154, 155, 156, 157, 158, 159, 160, 161, 162, 163, 164, 165, 166, 167, 168, 169, 170, 171, 172, 173, 174] (by decide +kernel) (by decide +kernel)
set_option maxRecDepth 20000 in
theorem ggL_isEnd_L_does_wsL_does_r8 : GoodIn wsL_isEnd wsL_does_r8 := goodIn_r _ [175, 176, 177, 178, 179, 180, 181, 182, 183, 184, 185, 186, 187, 188, 189, 190, 191, 192, 193, 194, 195, 196, 197, 198] (by decide +kernel) (by decide +kernel)
set_option maxRecDepth 20000 in
theorem ggL_isEnd_L_does_wsL_does_r9 : GoodIn wsL_isEnd wsL_does_r9 := goodIn_r _ [199, 200, 201, 202, 203, 204, 205, 206, 207, 208, 209, 210, 211, 212, 213, 214, 215, 216, 217, 218, 219, 220, 221, 222] (by decide +kernel) (by decide +kernel)
set_option maxRecDepth 20000 in
theorem ggL_isEnd_L_does_wsL_does_r10 : GoodIn wsL_isEnd wsL_does_r10 := goodIn_r _ [223, 224, 225, 226, 227, 228, 229, 230, 231, 232, 233, 234, 235, 236, 237, 238, 239, 240, 241, 242, 243, 244] (by decide +kernel) (by decide +kernel)
set_option maxRecDepth 20000 in
theorem ggL_isEnd_L_does_wsX50 : GoodIn wsL_isEnd wsX50 := goodIn_r _ [245, 246, 247, 248, 249, 250, 251, 252, 253, 254, 255, 256, 257, 258] (by decide +kernel) (by decide +kernel)
set_option maxRecDepth 20000 in
theorem ggL_isEnd_L_does_wsX20 : GoodIn wsL_isEnd wsX20 := goodIn_r _ [259, 260, 261, 262, 263, 264, 265] (by decide +kernel) (by decide +kernel)
set_option maxRecDepth 20000 in
theorem ggL_isEnd_L_does_wsX00 : GoodIn wsL_isEnd wsX00 := goodIn_r _ [266, 267, 268, 269, 270] (by decide +kernel) (by decide +kernel)
set_option maxRecDepth 20000 in
theorem ggL_isEnd_L_does_wsX10 : GoodIn wsL_isEnd wsX10 := goodIn_r _ [271, 272, 273, 274, 275, 276] (by decide +kernel) (by decide +kernel)
set_option maxRecDepth 20000 in
theorem ggL_isEnd_L_does_wsX30 : GoodIn wsL_isEnd wsX30 := goodIn_r _ [277, 278] (by decide +kernel) (by decide +kernel)
set_option maxRecDepth 100000 in
theorem ggL_isEnd_L_does_code : GoodIn wsL_isEnd [Cond.codeWith yL_does cL_does 7 (some .int) [(0, 108, 109, 45), (0, 108, 114, 47), (0, 108, 119, 49)]] := goodIn_sub (fun w hw => by rw [List.mem_singleton.mp hw]; exact List.mem_of_getElem? (i := 7) (by rfl)) (by rfl)
set_option maxRecDepth 20000 in
theorem ggL_isEnd_L_does : GoodIn wsL_isEnd wsL_does := goodIn_ca (goodIn_ca (goodIn_ca (goodIn_app ggL_isEnd_L_does_code (goodIn_app (goodIn_app (goodIn_app (goodIn_app (goodIn_app (goodIn_app ggL_isEnd_L_does_wsL_does_r1 (goodIn_app ggL_isEnd_L_does_wsL_does_r2 (goodIn_app ggL_isEnd_L_does_wsL_does_r3 (goodIn_app ggL_isEnd_L_does_wsL_does_r4 (goodIn_app ggL_isEnd_L_does_wsL_does_r5 (goodIn_app ggL_isEnd_L_does_wsL_does_r6 (goodIn_app ggL_isEnd_L_does_wsL_does_r7 (goodIn_app ggL_isEnd_L_does_wsL_does_r8 (goodIn_app ggL_isEnd_L_does_wsL_does_r9 ggL_isEnd_L_does_wsL_does_r10))))))))) ggL_isEnd_L_does_wsX50) ggL_isEnd_L_does_wsX20) ggL_isEnd_L_does_wsX00) ggL_isEnd_L_does_wsX10) ggL_isEnd_L_does_wsX30)) (goodIn_sub (fun _ h => List.mem_cons_of_mem _ (List.mem_append_left _ (List.mem_append_left _ (List.mem_append_right _ h)))) (by decide +kernel))) (goodIn_sub (fun _ h => List.mem_cons_of_mem _ (List.mem_append_left _ (List.mem_append_right _ h))) (by decide +kernel))) (goodIn_sub (fun _ h => List.mem_cons_of_mem _ (List.mem_append_right _ h)) (by decide +kernel))
set_option maxRecDepth 20000 in
theorem gL_isEnd_L_does : GoodIn wsL_isEnd (va_wsS RL 113 yL_does wsL_does) := goodIn_app (goodIn_of _ (by decide +kernel)) ggL_isEnd_L_does
theorem dL_isEnd_0 : decode cL_isEnd 0 = .ok (.iconst 0, 1) := by decide +kernel
theorem dL_isEnd_1 : decode cL_isEnd 1 = .ok (.istore 6, 2) := by decide +kernel
theorem dL_isEnd_3 : decode cL_isEnd 3 = .ok (.iconst 0, 1) := by decide +kernel
theorem dL_isEnd_4 : decode cL_isEnd 4 = .ok (.istore 7, 2) := by decide +kernel
theorem dL_isEnd_6 : decode cL_isEnd 6 = .ok (.iload 7, 2) := by decide +kernel
theorem dL_isEnd_8 : decode cL_isEnd 8 = .ok (.iconst 3, 1) := by decide +kernel
theorem dL_isEnd_9 : decode cL_isEnd 9 = .ok (.if_icmp .ge 70, 3) := by decide +kernel
theorem dL_isEnd_12 : decode cL_isEnd 12 = .ok (.aload_n 3, 1) := by decide +kernel
theorem dL_isEnd_13 : decode cL_isEnd 13 = .ok (.aload 4, 2) := by decide +kernel
theorem dL_isEnd_15 : decode cL_isEnd 15 = .ok (.iload 7, 2) := by decide +kernel
theorem dL_isEnd_17 : decode cL_isEnd 17 = .ok (.invokestatic 103, 3) := by decide +kernel
theorem dL_isEnd_20 : decode cL_isEnd 20 = .ok (.iload 5, 2) := by decide +kernel
theorem dL_isEnd_22 : decode cL_isEnd 22 = .ok (.imul, 1) := by decide +kernel
theorem dL_isEnd_23 : decode cL_isEnd 23 = .ok (.istore 8, 2) := by decide +kernel
theorem dL_isEnd_25 : decode cL_isEnd 25 = .ok (.iload 8, 2) := by decide +kernel
theorem dL_isEnd_27 : decode cL_isEnd 27 = .ok (.bipush 100, 2) := by decide +kernel
theorem dL_isEnd_29 : decode cL_isEnd 29 = .ok (.idiv, 1) := by decide +kernel
theorem dL_isEnd_30 : decode cL_isEnd 30 = .ok (.iload 8, 2) := by decide +kernel
theorem dL_isEnd_32 : decode cL_isEnd 32 = .ok (.bipush 100, 2) := by decide +kernel
theorem dL_isEnd_34 : decode cL_isEnd 34 = .ok (.irem, 1) := by decide +kernel
theorem dL_isEnd_35 : decode cL_isEnd 35 = .ok (.ifCond .le 7, 3) := by decide +kernel
theorem dL_isEnd_38 : decode cL_isEnd 38 = .ok (.iconst 1, 1) := by decide +kernel
theorem dL_isEnd_39 : decode cL_isEnd 39 = .ok (.goto 4, 3) := by decide +kernel
theorem dL_isEnd_42 : decode cL_isEnd 42 = .ok (.iconst 0, 1) := by decide +kernel
theorem dL_isEnd_43 : decode cL_isEnd 43 = .ok (.iadd, 1) := by decide +kernel
theorem dL_isEnd_44 : decode cL_isEnd 44 = .ok (.istore 8, 2) := by decide +kernel
theorem dL_isEnd_46 : decode cL_isEnd 46 = .ok (.iload 6, 2) := by decide +kernel
theorem dL_isEnd_48 : decode cL_isEnd 48 = .ok (.iload 8, 2) := by decide +kernel
theorem dL_isEnd_50 : decode cL_isEnd 50 = .ok (.aload 4, 2) := by decide +kernel
theorem dL_isEnd_52 : decode cL_isEnd 52 = .ok (.iload 7, 2) := by decide +kernel
theorem dL_isEnd_54 : decode cL_isEnd 54 = .ok (.iaload, 1) := by decide +kernel
theorem dL_isEnd_55 : decode cL_isEnd 55 = .ok (.if_icmp .le 14, 3) := by decide +kernel
theorem dL_isEnd_58 : decode cL_isEnd 58 = .ok (.iload 8, 2) := by decide +kernel
theorem dL_isEnd_60 : decode cL_isEnd 60 = .ok (.aload 4, 2) := by decide +kernel
theorem dL_isEnd_62 : decode cL_isEnd 62 = .ok (.iload 7, 2) := by decide +kernel
theorem dL_isEnd_64 : decode cL_isEnd 64 = .ok (.iaload, 1) := by decide +kernel
theorem dL_isEnd_65 : decode cL_isEnd 65 = .ok (.isub, 1) := by decide +kernel
theorem dL_isEnd_66 : decode cL_isEnd 66 = .ok (.goto 4, 3) := by decide +kernel
theorem dL_isEnd_69 : decode cL_isEnd 69 = .ok (.iconst 0, 1) := by decide +kernel
theorem dL_isEnd_70 : decode cL_isEnd 70 = .ok (.iadd, 1) := by decide +kernel
theorem dL_isEnd_71 : decode cL_isEnd 71 = .ok (.istore 6, 2) := by decide +kernel
theorem dL_isEnd_73 : decode cL_isEnd 73 = .ok (.iinc 7 1, 3) := by decide +kernel
theorem dL_isEnd_76 : decode cL_isEnd 76 = .ok (.goto (-70), 3) := by decide +kernel
theorem dL_isEnd_79 : decode cL_isEnd 79 = .ok (.iconst 0, 1) := by decide +kernel
theorem dL_isEnd_80 : decode cL_isEnd 80 = .ok (.istore 7, 2) := by decide +kernel
theorem dL_isEnd_82 : decode cL_isEnd 82 = .ok (.iload 7, 2) := by decide +kernel
theorem dL_isEnd_84 : decode cL_isEnd 84 = .ok (.aload 4, 2) := by decide +kernel
theorem dL_isEnd_86 : decode cL_isEnd 86 = .ok (.bipush 6, 2) := by decide +kernel
theorem dL_isEnd_88 : decode cL_isEnd 88 = .ok (.iaload, 1) := by decide +kernel
theorem dL_isEnd_89 : decode cL_isEnd 89 = .ok (.if_icmp .ge 24, 3) := by decide +kernel
theorem dL_isEnd_92 : decode cL_isEnd 92 = .ok (.aload 4, 2) := by decide +kernel
theorem dL_isEnd_94 : decode cL_isEnd 94 = .ok (.bipush 10, 2) := by decide +kernel
theorem dL_isEnd_96 : decode cL_isEnd 96 = .ok (.dup2, 1) := by decide +kernel
theorem dL_isEnd_97 : decode cL_isEnd 97 = .ok (.iaload, 1) := by decide +kernel
theorem dL_isEnd_98 : decode cL_isEnd 98 = .ok (.aload_n 3, 1) := by decide +kernel
theorem dL_isEnd_99 : decode cL_isEnd 99 = .ok (.bipush 20, 2) := by decide +kernel
theorem dL_isEnd_101 : decode cL_isEnd 101 = .ok (.iload 7, 2) := by decide +kernel
theorem dL_isEnd_103 : decode cL_isEnd 103 = .ok (.iadd, 1) := by decide +kernel
theorem dL_isEnd_104 : decode cL_isEnd 104 = .ok (.iaload, 1) := by decide +kernel
theorem dL_isEnd_105 : decode cL_isEnd 105 = .ok (.iadd, 1) := by decide +kernel
theorem dL_isEnd_106 : decode cL_isEnd 106 = .ok (.iastore, 1) := by decide +kernel
theorem dL_isEnd_107 : decode cL_isEnd 107 = .ok (.iinc 7 1, 3) := by decide +kernel
theorem dL_isEnd_110 : decode cL_isEnd 110 = .ok (.goto (-28), 3) := by decide +kernel
theorem dL_isEnd_113 : decode cL_isEnd 113 = .ok (.aload 4, 2) := by decide +kernel
theorem dL_isEnd_115 : decode cL_isEnd 115 = .ok (.bipush 10, 2) := by decide +kernel
theorem dL_isEnd_117 : decode cL_isEnd 117 = .ok (.dup2, 1) := by decide +kernel
theorem dL_isEnd_118 : decode cL_isEnd 118 = .ok (.iaload, 1) := by decide +kernel
theorem dL_isEnd_119 : decode cL_isEnd 119 = .ok (.bipush 100, 2) := by decide +kernel
theorem dL_isEnd_121 : decode cL_isEnd 121 = .ok (.iload 6, 2) := by decide +kernel
theorem dL_isEnd_123 : decode cL_isEnd 123 = .ok (.imul, 1) := by decide +kernel
theorem dL_isEnd_124 : decode cL_isEnd 124 = .ok (.isub, 1) := by decide +kernel
theorem dL_isEnd_125 : decode cL_isEnd 125 = .ok (.iastore, 1) := by decide +kernel
theorem dL_isEnd_126 : decode cL_isEnd 126 = .ok (.iconst 0, 1) := by decide +kernel
theorem dL_isEnd_127 : decode cL_isEnd 127 = .ok (.istore 7, 2) := by decide +kernel
theorem dL_isEnd_129 : decode cL_isEnd 129 = .ok (.iload 7, 2) := by decide +kernel
theorem dL_isEnd_131 : decode cL_isEnd 131 = .ok (.aload 4, 2) := by decide +kernel
theorem dL_isEnd_133 : decode cL_isEnd 133 = .ok (.iconst 4, 1) := by decide +kernel
theorem dL_isEnd_134 : decode cL_isEnd 134 = .ok (.iaload, 1) := by decide +kernel
theorem dL_isEnd_135 : decode cL_isEnd 135 = .ok (.if_icmp .ge 86, 3) := by decide +kernel
theorem dL_isEnd_138 : decode cL_isEnd 138 = .ok (.aload_n 2, 1) := by decide +kernel
theorem dL_isEnd_139 : decode cL_isEnd 139 = .ok (.bipush 10, 2) := by decide +kernel
theorem dL_isEnd_141 : decode cL_isEnd 141 = .ok (.iload 7, 2) := by decide +kernel
theorem dL_isEnd_143 : decode cL_isEnd 143 = .ok (.imul, 1) := by decide +kernel
theorem dL_isEnd_144 : decode cL_isEnd 144 = .ok (.aload 4, 2) := by decide +kernel
theorem dL_isEnd_146 : decode cL_isEnd 146 = .ok (.iconst 5, 1) := by decide +kernel
theorem dL_isEnd_147 : decode cL_isEnd 147 = .ok (.iaload, 1) := by decide +kernel
theorem dL_isEnd_148 : decode cL_isEnd 148 = .ok (.iadd, 1) := by decide +kernel
theorem dL_isEnd_149 : decode cL_isEnd 149 = .ok (.aload_n 1, 1) := by decide +kernel
theorem dL_isEnd_150 : decode cL_isEnd 150 = .ok (.bipush 6, 2) := by decide +kernel
theorem dL_isEnd_152 : decode cL_isEnd 152 = .ok (.iload 7, 2) := by decide +kernel
theorem dL_isEnd_154 : decode cL_isEnd 154 = .ok (.imul, 1) := by decide +kernel
theorem dL_isEnd_155 : decode cL_isEnd 155 = .ok (.iconst 4, 1) := by decide +kernel
theorem dL_isEnd_156 : decode cL_isEnd 156 = .ok (.iadd, 1) := by decide +kernel
theorem dL_isEnd_157 : decode cL_isEnd 157 = .ok (.iaload, 1) := by decide +kernel
theorem dL_isEnd_158 : decode cL_isEnd 158 = .ok (.iastore, 1) := by decide +kernel
theorem dL_isEnd_159 : decode cL_isEnd 159 = .ok (.aload_n 1, 1) := by decide +kernel
theorem dL_isEnd_160 : decode cL_isEnd 160 = .ok (.bipush 6, 2) := by decide +kernel
theorem dL_isEnd_162 : decode cL_isEnd 162 = .ok (.iload 7, 2) := by decide +kernel
theorem dL_isEnd_164 : decode cL_isEnd 164 = .ok (.imul, 1) := by decide +kernel
theorem dL_isEnd_165 : decode cL_isEnd 165 = .ok (.iconst 5, 1) := by decide +kernel
theorem dL_isEnd_166 : decode cL_isEnd 166 = .ok (.iadd, 1) := by decide +kernel
theorem dL_isEnd_167 : decode cL_isEnd 167 = .ok (.dup2, 1) := by decide +kernel
theorem dL_isEnd_168 : decode cL_isEnd 168 = .ok (.iaload, 1) := by decide +kernel
theorem dL_isEnd_169 : decode cL_isEnd 169 = .ok (.aload_n 1, 1) := by decide +kernel
theorem dL_isEnd_170 : decode cL_isEnd 170 = .ok (.bipush 6, 2) := by decide +kernel
theorem dL_isEnd_172 : decode cL_isEnd 172 = .ok (.iload 7, 2) := by decide +kernel
theorem dL_isEnd_174 : decode cL_isEnd 174 = .ok (.imul, 1) := by decide +kernel
theorem dL_isEnd_175 : decode cL_isEnd 175 = .ok (.iconst 4, 1) := by decide +kernel
theorem dL_isEnd_176 : decode cL_isEnd 176 = .ok (.iadd, 1) := by decide +kernel
theorem dL_isEnd_177 : decode cL_isEnd 177 = .ok (.iaload, 1) := by decide +kernel
theorem dL_isEnd_178 : decode cL_isEnd 178 = .ok (.iadd, 1) := by decide +kernel
theorem dL_isEnd_179 : decode cL_isEnd 179 = .ok (.iastore, 1) := by decide +kernel
theorem dL_isEnd_180 : decode cL_isEnd 180 = .ok (.aload_n 1, 1) := by decide +kernel
theorem dL_isEnd_181 : decode cL_isEnd 181 = .ok (.bipush 6, 2) := by decide +kernel
theorem dL_isEnd_183 : decode cL_isEnd 183 = .ok (.iload 7, 2) := by decide +kernel
theorem dL_isEnd_185 : decode cL_isEnd 185 = .ok (.imul, 1) := by decide +kernel
theorem dL_isEnd_186 : decode cL_isEnd 186 = .ok (.iconst 3, 1) := by decide +kernel
theorem dL_isEnd_187 : decode cL_isEnd 187 = .ok (.iadd, 1) := by decide +kernel
theorem dL_isEnd_188 : decode cL_isEnd 188 = .ok (.aload_n 1, 1) := by decide +kernel
theorem dL_isEnd_189 : decode cL_isEnd 189 = .ok (.bipush 6, 2) := by decide +kernel
theorem dL_isEnd_191 : decode cL_isEnd 191 = .ok (.iload 7, 2) := by decide +kernel
theorem dL_isEnd_193 : decode cL_isEnd 193 = .ok (.imul, 1) := by decide +kernel
theorem dL_isEnd_194 : decode cL_isEnd 194 = .ok (.iconst 5, 1) := by decide +kernel
theorem dL_isEnd_195 : decode cL_isEnd 195 = .ok (.iadd, 1) := by decide +kernel
theorem dL_isEnd_196 : decode cL_isEnd 196 = .ok (.iaload, 1) := by decide +kernel
theorem dL_isEnd_197 : decode cL_isEnd 197 = .ok (.aload 4, 2) := by decide +kernel
theorem dL_isEnd_199 : decode cL_isEnd 199 = .ok (.iconst 5, 1) := by decide +kernel
theorem dL_isEnd_200 : decode cL_isEnd 200 = .ok (.iaload, 1) := by decide +kernel
theorem dL_isEnd_201 : decode cL_isEnd 201 = .ok (.iconst 1, 1) := by decide +kernel
theorem dL_isEnd_202 : decode cL_isEnd 202 = .ok (.iadd, 1) := by decide +kernel
theorem dL_isEnd_203 : decode cL_isEnd 203 = .ok (.idiv, 1) := by decide +kernel
theorem dL_isEnd_204 : decode cL_isEnd 204 = .ok (.iastore, 1) := by decide +kernel
theorem dL_isEnd_205 : decode cL_isEnd 205 = .ok (.aload_n 1, 1) := by decide +kernel
theorem dL_isEnd_206 : decode cL_isEnd 206 = .ok (.bipush 6, 2) := by decide +kernel
theorem dL_isEnd_208 : decode cL_isEnd 208 = .ok (.iload 7, 2) := by decide +kernel
theorem dL_isEnd_210 : decode cL_isEnd 210 = .ok (.imul, 1) := by decide +kernel
theorem dL_isEnd_211 : decode cL_isEnd 211 = .ok (.iconst 4, 1) := by decide +kernel
theorem dL_isEnd_212 : decode cL_isEnd 212 = .ok (.iadd, 1) := by decide +kernel
theorem dL_isEnd_213 : decode cL_isEnd 213 = .ok (.iconst 0, 1) := by decide +kernel
theorem dL_isEnd_214 : decode cL_isEnd 214 = .ok (.iastore, 1) := by decide +kernel
theorem dL_isEnd_215 : decode cL_isEnd 215 = .ok (.iinc 7 1, 3) := by decide +kernel
theorem dL_isEnd_218 : decode cL_isEnd 218 = .ok (.goto (-89), 3) := by decide +kernel
theorem dL_isEnd_221 : decode cL_isEnd 221 = .ok (.aload 4, 2) := by decide +kernel
theorem dL_isEnd_223 : decode cL_isEnd 223 = .ok (.iconst 5, 1) := by decide +kernel
theorem dL_isEnd_224 : decode cL_isEnd 224 = .ok (.dup2, 1) := by decide +kernel
theorem dL_isEnd_225 : decode cL_isEnd 225 = .ok (.iaload, 1) := by decide +kernel
theorem dL_isEnd_226 : decode cL_isEnd 226 = .ok (.iconst 1, 1) := by decide +kernel
theorem dL_isEnd_227 : decode cL_isEnd 227 = .ok (.iadd, 1) := by decide +kernel
theorem dL_isEnd_228 : decode cL_isEnd 228 = .ok (.iastore, 1) := by decide +kernel
theorem dL_isEnd_229 : decode cL_isEnd 229 = .ok (.aload 4, 2) := by decide +kernel
theorem dL_isEnd_231 : decode cL_isEnd 231 = .ok (.bipush 6, 2) := by decide +kernel
theorem dL_isEnd_233 : decode cL_isEnd 233 = .ok (.iconst 0, 1) := by decide +kernel
theorem dL_isEnd_234 : decode cL_isEnd 234 = .ok (.iastore, 1) := by decide +kernel
theorem dL_isEnd_235 : decode cL_isEnd 235 = .ok (.aload_n 0, 1) := by decide +kernel
theorem dL_isEnd_236 : decode cL_isEnd 236 = .ok (.bipush 7, 2) := by decide +kernel
theorem dL_isEnd_238 : decode cL_isEnd 238 = .ok (.iload 5, 2) := by decide +kernel
theorem dL_isEnd_240 : decode cL_isEnd 240 = .ok (.iconst 0, 1) := by decide +kernel
theorem dL_isEnd_241 : decode cL_isEnd 241 = .ok (.iconst 0, 1) := by decide +kernel
theorem dL_isEnd_242 : decode cL_isEnd 242 = .ok (.iconst 0, 1) := by decide +kernel
theorem dL_isEnd_243 : decode cL_isEnd 243 = .ok (.invokestatic 113, 3) := by decide +kernel
theorem dL_isEnd_246 : decode cL_isEnd 246 = .ok (.iload 6, 2) := by decide +kernel
theorem dL_isEnd_248 : decode cL_isEnd 248 = .ok (.if_icmp .ne 7, 3) := by decide +kernel
theorem dL_isEnd_251 : decode cL_isEnd 251 = .ok (.iconst 1, 1) := by decide +kernel
theorem dL_isEnd_252 : decode cL_isEnd 252 = .ok (.goto 4, 3) := by decide +kernel
theorem dL_isEnd_255 : decode cL_isEnd 255 = .ok (.iconst 0, 1) := by decide +kernel
theorem dL_isEnd_256 : decode cL_isEnd 256 = .ok (.ireturn, 1) := by decide +kernel
set_option maxRecDepth 20000 in
theorem ggL_isDone_L_part : GoodIn wsL_isDone wsL_part := goodIn_r _ [4, 5] (by decide +kernel) (by decide +kernel)
set_option maxRecDepth 20000 in
theorem gL_isDone_L_part : GoodIn wsL_isDone (va_wsS RL 121 yL_part wsL_part) := goodIn_app (goodIn_of _ (by decide +kernel)) ggL_isDone_L_part
set_option maxRecDepth 20000 in
theorem ggL_isDone_L_does_wsL_does_r1 : GoodIn wsL_isDone wsL_does_r1 := goodIn_r _ [9, 10, 11, 12, 13, 3, 14, 15, 16, 17, 18, 19, 20, 21, 22, 23, 24, 25, 26, 27, 28, 29, 30, 31] (by decide +kernel) (by decide +kernel)
set_option maxRecDepth 20000 in
theorem ggL_isDone_L_does_wsL_does_r2 : GoodIn wsL_isDone wsL_does_r2 := goodIn_r _ [32, 33, 34, 35, 36, 37, 38, 39, 40, 41, 42, 43, 44, 45, 46, 47, 48, 49, 50, 51, 52, 53, 54, 55] (by decide +kernel) (by decide +kernel)
set_option maxRecDepth 20000 in
theorem ggL_isDone_L_does_wsL_does_r3 : GoodIn wsL_isDone wsL_does_r3 := goodIn_r _ [56, 57, 58, 59, 60, 61, 62, 63, 64, 65, 66, 67, 68, 69, 70, 71, 72, 73, 74, 75, 76, 77, 78, 79] (by decide +kernel) (by decide +kernel)
set_option maxRecDepth 20000 in
theorem ggL_isDone_L_does_wsL_does_r4 : GoodIn wsL_isDone wsL_does_r4 := goodIn_r _ [80, 81, 82, 83, 84, 85, 86, 87, 88, 89, 90, 91, 92, 93, 94, 95, 96, 97, 98, 99, 100, 101, 102, 103] (by decide +kernel) (by decide +kernel)
set_option maxRecDepth 20000 in
theorem ggL_isDone_L_does_wsL_does_r5 : GoodIn wsL_isDone wsL_does_r5 := goodIn_r _ [104, 105, 106, 107, 108, 109, 110, 111, 112, 113, 114, 115, 116, 117, 118, 119, 120, 121, 122, 123, 124, 125, 126, 127] (by decide +kernel) (by decide +kernel)
set_option maxRecDepth 20000 in
theorem ggL_isDone_L_does_wsL_does_r6 : GoodIn wsL_isDone wsL_does_r6 := goodIn_r _ [128, 129, 130, 131, 132, 133, 134, 135, 136, 137, 138, 139, 140, 141, 142, 143, 144, 145, 146, 147, 148, 149, 150, 151] (by decide +kernel) (by decide +kernel)
set_option maxRecDepth 20000 in
theorem ggL_isDone_L_does_wsL_does_r7 : GoodIn wsL_isDone wsL_does_r7 := goodIn_r _ [152, 153, 154, 155, 156, 157, 158, 159, 160, 161, 162, 163, 164, 165, 166, 167, 168, 169, 170, 171, 172, 173, 174, 175] (by decide +kernel) (by decide +kernel)
set_option maxRecDepth 20000 in
theorem ggL_isDone_L_does_wsL_does_r8 : GoodIn wsL_isDone wsL_does_r8 := goodIn_r _ [176, 177, 178, 179, 180, 181, 182, 183, 184, 185, 186, 187, 188, 189, 190, 191, 192, 193, 194, 195, 196, 197, 198, 199] (by decide +kernel) (by decide +kernel)
set_option maxRecDepth 20000 in
theorem ggL_isDone_L_does_wsL_does_r9 : GoodIn wsL_isDone wsL_does_r9 := goodIn_r _ [200, 201, 202, 203, 204, 205, 206, 207, 208, 209, 210, 211, 212, 213, 214, 215, 216, 217, 218, 219, 220, 221, 222, 223] (by decide +kernel) (by decide +kernel)
set_option maxRecDepth 20000 in
theorem ggL_isDone_L_does_wsL_does_r10 : GoodIn wsL_isDone wsL_does_r10 := goodIn_r _ [224, 225, 226, 227, 228, 229, 230, 231, 232, 233, 234, 235, 236, 237, 238, 239, 240, 241, 242, 243, 244, 245] (by decide +kernel) (by decide +kernel)
set_option maxRecDepth 20000 in
theorem ggL_isDone_L_does_wsX50 : GoodIn wsL_isDone wsX50 := goodIn_r _ [282, 283, 284, 285, 286, 287, 288, 289, 290, 291, 292, 293, 294, 295] (by decide +kernel) (by decide +kernel)
set_option maxRecDepth 20000 in
theorem ggL_isDone_L_does_wsX20 : GoodIn wsL_isDone wsX20 := goodIn_r _ [296, 297, 298, 299, 300, 301, 302] (by decide +kernel) (by decide +kernel)
set_option maxRecDepth 20000 in
theorem ggL_isDone_L_does_wsX00 : GoodIn wsL_isDone wsX00 := goodIn_r _ [303, 304, 305, 306, 307] (by decide +kernel) (by decide +kernel)
set_option maxRecDepth 20000 in
theorem ggL_isDone_L_does_wsX10 : GoodIn wsL_isDone wsX10 := goodIn_r _ [308, 309, 310, 311, 312, 313] (by decide +kernel) (by decide +kernel)
set_option maxRecDepth 20000 in
theorem ggL_isDone_L_does_wsX30 : GoodIn wsL_isDone wsX30 := goodIn_r _ [314, 315] (by decide +kernel) (by decide +kernel)
set_option maxRecDepth 100000 in
theorem ggL_isDone_L_does_code : GoodIn wsL_isDone [Cond.codeWith yL_does cL_does 7 (some .int) [(0, 108, 109, 45), (0, 108, 114, 47), (0, 108, 119, 49)]] := goodIn_sub (fun w hw => by rw [List.mem_singleton.mp hw]; exact List.mem_of_getElem? (i := 8) (by rfl)) (by rfl)
set_option maxRecDepth 20000 in
theorem ggL_isDone_L_does : GoodIn wsL_isDone wsL_does := goodIn_ca (goodIn_ca (goodIn_ca (goodIn_app ggL_isDone_L_does_code (goodIn_app (goodIn_app (goodIn_app (goodIn_app (goodIn_app (goodIn_app ggL_isDone_L_does_wsL_does_r1 (goodIn_app ggL_isDone_L_does_wsL_does_r2 (goodIn_app ggL_isDone_L_does_wsL_does_r3 (goodIn_app ggL_isDone_L_does_wsL_does_r4 (goodIn_app ggL_isDone_L_does_wsL_does_r5 (goodIn_app ggL_isDone_L_does_wsL_does_r6 (goodIn_app ggL_isDone_L_does_wsL_does_r7 (goodIn_app ggL_isDone_L_does_wsL_does_r8 (goodIn_app ggL_isDone_L_does_wsL_does_r9 ggL_isDone_L_does_wsL_does_r10))))))))) ggL_isDone_L_does_wsX50) ggL_isDone_L_does_wsX20) ggL_isDone_L_does_wsX00) ggL_isDone_L_does_wsX10) ggL_isDone_L_does_wsX30)) (goodIn_sub (fun _ h => List.mem_cons_of_mem _ (List.mem_append_left _ (List.mem_append_left _ (List.mem_append_right _ h)))) (by decide +kernel))) (goodIn_sub (fun _ h => List.mem_cons_of_mem _ (List.mem_append_left _ (List.mem_append_right _ h))) (by decide +kernel))) (goodIn_sub (fun _ h => List.mem_cons_of_mem _ (List.mem_append_right _ h)) (by decide +kernel))
set_option maxRecDepth 20000 in
theorem gL_isDone_L_does : GoodIn wsL_isDone (va_wsS RL 113 yL_does wsL_does) := goodIn_app (goodIn_of _ (by decide +kernel)) ggL_isDone_L_does
set_option maxRecDepth 20000 in
theorem ggL_isDone_L_isProduct_wsL_isProduct_r1 : GoodIn wsL_isDone wsL_isProduct_r1 := goodIn_r _ [249, 250, 251, 18, 252, 38, 6, 7, 3, 8, 9, 10, 11, 12, 13, 14, 15, 16, 17, 19, 20, 21, 22, 23] (by decide +kernel) (by decide +kernel)
set_option maxRecDepth 20000 in
theorem ggL_isDone_L_isProduct_wsL_isProduct_r2 : GoodIn wsL_isDone wsL_isProduct_r2 := goodIn_r _ [24, 25, 26, 27, 28, 29, 30, 31, 32, 33, 34, 35, 36, 37, 39, 40, 41, 42, 43, 44, 45, 46, 47, 48] (by decide +kernel) (by decide +kernel)
set_option maxRecDepth 20000 in
theorem ggL_isDone_L_isProduct_wsL_isProduct_r3 : GoodIn wsL_isDone wsL_isProduct_r3 := goodIn_r _ [49, 50, 51, 52, 53, 54, 55, 56, 57, 58, 59, 60, 61, 62, 63, 64, 65, 66, 67, 68, 69, 70, 71, 72] (by decide +kernel) (by decide +kernel)
set_option maxRecDepth 20000 in
theorem ggL_isDone_L_isProduct_wsL_isProduct_r4 : GoodIn wsL_isDone wsL_isProduct_r4 := goodIn_r _ [73, 74, 75, 76, 77, 78, 79, 80, 81, 82, 83, 84, 85, 86, 87, 88, 89, 90, 91, 92, 93, 94, 95, 96] (by decide +kernel) (by decide +kernel)
set_option maxRecDepth 20000 in
theorem ggL_isDone_L_isProduct_wsL_isProduct_r5 : GoodIn wsL_isDone wsL_isProduct_r5 := goodIn_r _ [97, 98, 99, 100, 101, 102, 103, 104, 105, 106, 107, 108, 109, 110, 111, 112, 113, 114, 115, 116, 117, 118, 119, 120] (by decide +kernel) (by decide +kernel)
set_option maxRecDepth 20000 in
theorem ggL_isDone_L_isProduct_wsL_isProduct_r6 : GoodIn wsL_isDone wsL_isProduct_r6 := goodIn_r _ [121, 122, 123, 124, 125, 126, 127, 128, 129, 130, 131, 132, 133, 134, 135, 136, 137, 138, 139, 140, 141, 142, 143, 144] (by decide +kernel) (by decide +kernel)
set_option maxRecDepth 20000 in
theorem ggL_isDone_L_isProduct_wsL_isProduct_r7 : GoodIn wsL_isDone wsL_isProduct_r7 := goodIn_r _ [145, 146, 147, 148, 149, 150, 151, 152, 153, 154, 155, 156, 157, 158, 159, 160, 161, 162, 163, 164, 165, 166, 167, 168] (by decide +kernel) (by decide +kernel)
set_option maxRecDepth 20000 in
theorem ggL_isDone_L_isProduct_wsL_isProduct_r8 : GoodIn wsL_isDone wsL_isProduct_r8 := goodIn_r _ [169, 170, 171, 172, 173, 174, 175, 176, 177, 178, 179, 180, 181, 182, 183, 184, 185, 186, 187, 188, 189, 190, 191, 192] (by decide +kernel) (by decide +kernel)
set_option maxRecDepth 20000 in
theorem ggL_isDone_L_isProduct_wsL_isProduct_r9 : GoodIn wsL_isDone wsL_isProduct_r9 := goodIn_r _ [193, 194, 195, 196, 197, 198, 199, 200, 201, 202, 203, 204, 205, 206, 207, 208, 209, 210, 211, 212, 213, 214, 215, 216] (by decide +kernel) (by decide +kernel)
set_option maxRecDepth 20000 in
theorem ggL_isDone_L_isProduct_wsL_isProduct_r10 : GoodIn wsL_isDone wsL_isProduct_r10 := goodIn_r _ [217, 218, 219, 220, 221, 222, 223, 224, 225, 226, 227, 228, 229, 230, 231, 232, 233, 234, 235, 236, 237, 238, 239, 240] (by decide +kernel) (by decide +kernel)
set_option maxRecDepth 20000 in
theorem ggL_isDone_L_isProduct_wsL_isProduct_r11 : GoodIn wsL_isDone wsL_isProduct_r11 := goodIn_r _ [241, 242, 243, 244, 245] (by decide +kernel) (by decide +kernel)
set_option maxRecDepth 20000 in
theorem ggL_isDone_L_isProduct_wsX50 : GoodIn wsL_isDone wsX50 := goodIn_r _ [282, 283, 284, 285, 286, 287, 288, 289, 290, 291, 292, 293, 294, 295] (by decide +kernel) (by decide +kernel)
set_option maxRecDepth 20000 in
theorem ggL_isDone_L_isProduct_wsX20 : GoodIn wsL_isDone wsX20 := goodIn_r _ [296, 297, 298, 299, 300, 301, 302] (by decide +kernel) (by decide +kernel)
set_option maxRecDepth 20000 in
theorem ggL_isDone_L_isProduct_wsX00 : GoodIn wsL_isDone wsX00 := goodIn_r _ [303, 304, 305, 306, 307] (by decide +kernel) (by decide +kernel)
set_option maxRecDepth 20000 in
theorem ggL_isDone_L_isProduct_wsX10 : GoodIn wsL_isDone wsX10 := goodIn_r _ [308, 309, 310, 311, 312, 313] (by decide +kernel) (by decide +kernel)
set_option maxRecDepth 20000 in
theorem ggL_isDone_L_isProduct_wsX30 : GoodIn wsL_isDone wsX30 := goodIn_r _ [314, 315] (by decide +kernel) (by decide +kernel)
set_option maxRecDepth 100000 in
theorem ggL_isDone_L_isProduct_code : GoodIn wsL_isDone [Cond.code yL_isProduct cL_isProduct 16 (some .boolean)] := goodIn_sub (fun w hw => by rw [List.mem_singleton.mp hw]; exact List.mem_of_getElem? (i := 248) (by rfl)) (by rfl)
set_option maxRecDepth 20000 in
theorem ggL_isDone_L_isProduct : GoodIn wsL_isDone wsL_isProduct := goodIn_ca (goodIn_ca (goodIn_ca (goodIn_app ggL_isDone_L_isProduct_code (goodIn_app (goodIn_app (goodIn_app (goodIn_app (goodIn_app (goodIn_app ggL_isDone_L_isProduct_wsL_isProduct_r1 (goodIn_app ggL_isDone_L_isProduct_wsL_isProduct_r2 (goodIn_app ggL_isDone_L_isProduct_wsL_isProduct_r3 (goodIn_app ggL_isDone_L_isProduct_wsL_isProduct_r4 (goodIn_app ggL_isDone_L_isProduct_wsL_isProduct_r5 (goodIn_app ggL_isDone_L_isProduct_wsL_isProduct_r6 (goodIn_app ggL_isDone_L_isProduct_wsL_isProduct_r7 (goodIn_app ggL_isDone_L_isProduct_wsL_isProduct_r8 (goodIn_app ggL_isDone_L_isProduct_wsL_isProduct_r9 (goodIn_app ggL_isDone_L_isProduct_wsL_isProduct_r10 ggL_isDone_L_isProduct_wsL_isProduct_r11)))))))))) ggL_isDone_L_isProduct_wsX50) ggL_isDone_L_isProduct_wsX20) ggL_isDone_L_isProduct_wsX00) ggL_isDone_L_isProduct_wsX10) ggL_isDone_L_isProduct_wsX30)) (goodIn_sub (fun _ h => List.mem_cons_of_mem _ (List.mem_append_left _ (List.mem_append_left _ (List.mem_append_right _ h)))) (by decide +kernel))) (goodIn_sub (fun _ h => List.mem_cons_of_mem _ (List.mem_append_left _ (List.mem_append_right _ h))) (by decide +kernel))) (goodIn_sub (fun _ h => List.mem_cons_of_mem _ (List.mem_append_right _ h)) (by decide +kernel))
set_option maxRecDepth 20000 in
theorem gL_isDone_L_isProduct : GoodIn wsL_isDone (va_wsS RL 125 yL_isProduct wsL_isProduct) := goodIn_app (goodIn_of _ (by decide +kernel)) ggL_isDone_L_isProduct
set_option maxRecDepth 20000 in
theorem ggL_isDone_L_isAsked_wsL_isAsked_r1 : GoodIn wsL_isDone wsL_isAsked_r1 := goodIn_r _ [6, 7, 3, 8, 9, 10, 11, 12, 13, 14, 15, 16, 17, 18, 19, 20, 21, 22, 23, 24, 25, 26, 27, 28] (by decide +kernel) (by decide +kernel)
set_option maxRecDepth 20000 in
theorem ggL_isDone_L_isAsked_wsL_isAsked_r2 : GoodIn wsL_isDone wsL_isAsked_r2 := goodIn_r _ [29, 30, 31, 32, 33, 34, 35, 36, 37, 38, 39, 40, 41, 42, 43, 44, 45, 46, 47, 48, 49, 50, 51, 52] (by decide +kernel) (by decide +kernel)
set_option maxRecDepth 20000 in
theorem ggL_isDone_L_isAsked_wsL_isAsked_r3 : GoodIn wsL_isDone wsL_isAsked_r3 := goodIn_r _ [53, 54, 55, 56, 57, 58, 59, 60, 61, 62, 63, 64, 65, 66, 67, 68, 69, 70, 71, 72, 73, 74, 75, 76] (by decide +kernel) (by decide +kernel)
set_option maxRecDepth 20000 in
theorem ggL_isDone_L_isAsked_wsL_isAsked_r4 : GoodIn wsL_isDone wsL_isAsked_r4 := goodIn_r _ [77, 78, 79, 80, 81, 82, 83, 84, 85, 86, 87, 88, 89, 90, 91, 92, 93, 94, 95, 96, 97, 98, 99, 100] (by decide +kernel) (by decide +kernel)
set_option maxRecDepth 20000 in
theorem ggL_isDone_L_isAsked_wsL_isAsked_r5 : GoodIn wsL_isDone wsL_isAsked_r5 := goodIn_r _ [101, 102, 103, 104, 105, 106, 107, 108, 109, 110, 111, 112, 113, 114, 115, 116, 117, 118, 119, 120, 121, 122, 123, 124] (by decide +kernel) (by decide +kernel)
set_option maxRecDepth 20000 in
theorem ggL_isDone_L_isAsked_wsL_isAsked_r6 : GoodIn wsL_isDone wsL_isAsked_r6 := goodIn_r _ [125, 126, 127, 128, 129, 130, 131, 132, 133, 134, 135, 136, 137, 138, 139, 140, 141, 142, 143, 144, 145, 146, 147, 148] (by decide +kernel) (by decide +kernel)
set_option maxRecDepth 20000 in
theorem ggL_isDone_L_isAsked_wsL_isAsked_r7 : GoodIn wsL_isDone wsL_isAsked_r7 := goodIn_r _ [149, 150, 151, 152, 153, 154, 155, 156, 157, 158, 159, 160, 161, 162, 163, 164, 165, 166, 167, 168, 169, 170, 171, 172] (by decide +kernel) (by decide +kernel)
set_option maxRecDepth 20000 in
theorem ggL_isDone_L_isAsked_wsL_isAsked_r8 : GoodIn wsL_isDone wsL_isAsked_r8 := goodIn_r _ [173, 174, 175, 176, 177, 178, 179, 180, 181, 182, 183, 184, 185, 186, 187, 188, 189, 190, 191, 192, 193, 194, 195, 196] (by decide +kernel) (by decide +kernel)
set_option maxRecDepth 20000 in
theorem ggL_isDone_L_isAsked_wsL_isAsked_r9 : GoodIn wsL_isDone wsL_isAsked_r9 := goodIn_r _ [197, 198, 199, 200, 201, 202, 203, 204, 205, 206, 207, 208, 209, 210, 211, 212, 213, 214, 215, 216, 217, 218, 219, 220] (by decide +kernel) (by decide +kernel)
set_option maxRecDepth 20000 in
theorem ggL_isDone_L_isAsked_wsL_isAsked_r10 : GoodIn wsL_isDone wsL_isAsked_r10 := goodIn_r _ [221, 222, 223, 224, 225, 226, 227, 228, 229, 230, 231, 232, 233, 234, 235, 236, 237, 238, 239, 240, 241, 242, 243, 244] (by decide +kernel) (by decide +kernel)
set_option maxRecDepth 20000 in
theorem ggL_isDone_L_isAsked_wsL_isAsked_r11 : GoodIn wsL_isDone wsL_isAsked_r11 := goodIn_r _ [245, 256, 257, 258, 259, 260, 261, 262, 263, 264, 265, 266, 267, 268, 269, 270, 271] (by decide +kernel) (by decide +kernel)
set_option maxRecDepth 20000 in
theorem ggL_isDone_L_isAsked_wsX50 : GoodIn wsL_isDone wsX50 := goodIn_r _ [282, 283, 284, 285, 286, 287, 288, 289, 290, 291, 292, 293, 294, 295] (by decide +kernel) (by decide +kernel)
set_option maxRecDepth 20000 in
theorem ggL_isDone_L_isAsked_wsX20 : GoodIn wsL_isDone wsX20 := goodIn_r _ [296, 297, 298, 299, 300, 301, 302] (by decide +kernel) (by decide +kernel)
set_option maxRecDepth 20000 in
theorem ggL_isDone_L_isAsked_wsX00 : GoodIn wsL_isDone wsX00 := goodIn_r _ [303, 304, 305, 306, 307] (by decide +kernel) (by decide +kernel)
set_option maxRecDepth 20000 in
theorem ggL_isDone_L_isAsked_wsX10 : GoodIn wsL_isDone wsX10 := goodIn_r _ [308, 309, 310, 311, 312, 313] (by decide +kernel) (by decide +kernel)
set_option maxRecDepth 20000 in
theorem ggL_isDone_L_isAsked_wsX30 : GoodIn wsL_isDone wsX30 := goodIn_r _ [314, 315] (by decide +kernel) (by decide +kernel)
set_option maxRecDepth 100000 in
theorem ggL_isDone_L_isAsked_code : GoodIn wsL_isDone [Cond.code yL_isAsked cL_isAsked 12 (some .boolean)] := goodIn_sub (fun w hw => by rw [List.mem_singleton.mp hw]; exact List.mem_of_getElem? (i := 255) (by rfl)) (by rfl)
set_option maxRecDepth 20000 in
theorem ggL_isDone_L_isAsked : GoodIn wsL_isDone wsL_isAsked := goodIn_ca (goodIn_ca (goodIn_ca (goodIn_app ggL_isDone_L_isAsked_code (goodIn_app (goodIn_app (goodIn_app (goodIn_app (goodIn_app (goodIn_app ggL_isDone_L_isAsked_wsL_isAsked_r1 (goodIn_app ggL_isDone_L_isAsked_wsL_isAsked_r2 (goodIn_app ggL_isDone_L_isAsked_wsL_isAsked_r3 (goodIn_app ggL_isDone_L_isAsked_wsL_isAsked_r4 (goodIn_app ggL_isDone_L_isAsked_wsL_isAsked_r5 (goodIn_app ggL_isDone_L_isAsked_wsL_isAsked_r6 (goodIn_app ggL_isDone_L_isAsked_wsL_isAsked_r7 (goodIn_app ggL_isDone_L_isAsked_wsL_isAsked_r8 (goodIn_app ggL_isDone_L_isAsked_wsL_isAsked_r9 (goodIn_app ggL_isDone_L_isAsked_wsL_isAsked_r10 ggL_isDone_L_isAsked_wsL_isAsked_r11)))))))))) ggL_isDone_L_isAsked_wsX50) ggL_isDone_L_isAsked_wsX20) ggL_isDone_L_isAsked_wsX00) ggL_isDone_L_isAsked_wsX10) ggL_isDone_L_isAsked_wsX30)) (goodIn_sub (fun _ h => List.mem_cons_of_mem _ (List.mem_append_left _ (List.mem_append_left _ (List.mem_append_right _ h)))) (by decide +kernel))) (goodIn_sub (fun _ h => List.mem_cons_of_mem _ (List.mem_append_left _ (List.mem_append_right _ h))) (by decide +kernel))) (goodIn_sub (fun _ h => List.mem_cons_of_mem _ (List.mem_append_right _ h)) (by decide +kernel))
set_option maxRecDepth 20000 in
theorem gL_isDone_L_isAsked : GoodIn wsL_isDone (va_wsS RL 129 yL_isAsked wsL_isAsked) := goodIn_app (goodIn_of _ (by decide +kernel)) ggL_isDone_L_isAsked
set_option maxRecDepth 20000 in
theorem ggL_isDone_L_isGroup_wsL_isGroup_r1 : GoodIn wsL_isDone wsL_isGroup_r1 := goodIn_r _ [6, 7, 3, 8, 9, 10, 11, 12, 13, 14, 15, 16, 17, 18, 19, 20, 21, 22, 23, 24, 25, 26, 27, 28] (by decide +kernel) (by decide +kernel)
set_option maxRecDepth 20000 in
theorem ggL_isDone_L_isGroup_wsL_isGroup_r2 : GoodIn wsL_isDone wsL_isGroup_r2 := goodIn_r _ [29, 30, 31, 32, 33, 34, 35, 36, 37, 38, 39, 40, 41, 42, 43, 44, 45, 46, 47, 48, 49, 50, 51, 52] (by decide +kernel) (by decide +kernel)
set_option maxRecDepth 20000 in
theorem ggL_isDone_L_isGroup_wsL_isGroup_r3 : GoodIn wsL_isDone wsL_isGroup_r3 := goodIn_r _ [53, 54, 55, 56, 57, 58, 59, 60, 61, 62, 63, 64, 65, 66, 67, 68, 69, 70, 71, 72, 73, 74, 75, 76] (by decide +kernel) (by decide +kernel)
set_option maxRecDepth 20000 in
theorem ggL_isDone_L_isGroup_wsL_isGroup_r4 : GoodIn wsL_isDone wsL_isGroup_r4 := goodIn_r _ [77, 78, 79, 80, 81, 82, 83, 84, 85, 86, 87, 88, 89, 90, 91, 92, 93, 94, 95, 96, 97, 98, 99, 100] (by decide +kernel) (by decide +kernel)
set_option maxRecDepth 20000 in
theorem ggL_isDone_L_isGroup_wsL_isGroup_r5 : GoodIn wsL_isDone wsL_isGroup_r5 := goodIn_r _ [101, 102, 103, 104, 105, 106, 107, 108, 109, 110, 111, 112, 113, 114, 115, 116, 117, 118, 119, 120, 121, 122, 123, 124] (by decide +kernel) (by decide +kernel)
set_option maxRecDepth 20000 in
theorem ggL_isDone_L_isGroup_wsL_isGroup_r6 : GoodIn wsL_isDone wsL_isGroup_r6 := goodIn_r _ [125, 126, 127, 128, 129, 130, 131, 132, 133, 134, 135, 136, 137, 138, 139, 140, 141, 142, 143, 144, 145, 146, 147, 148] (by decide +kernel) (by decide +kernel)
set_option maxRecDepth 20000 in
theorem ggL_isDone_L_isGroup_wsL_isGroup_r7 : GoodIn wsL_isDone wsL_isGroup_r7 := goodIn_r _ [149, 150, 151, 152, 153, 154, 155, 156, 157, 158, 159, 160, 161, 162, 163, 164, 165, 166, 167, 168, 169, 170, 171, 172] (by decide +kernel) (by decide +kernel)
set_option maxRecDepth 20000 in
theorem ggL_isDone_L_isGroup_wsL_isGroup_r8 : GoodIn wsL_isDone wsL_isGroup_r8 := goodIn_r _ [173, 174, 175, 176, 177, 178, 179, 180, 181, 182, 183, 184, 185, 186, 187, 188, 189, 190, 191, 192, 193, 194, 195, 196] (by decide +kernel) (by decide +kernel)
set_option maxRecDepth 20000 in
theorem ggL_isDone_L_isGroup_wsL_isGroup_r9 : GoodIn wsL_isDone wsL_isGroup_r9 := goodIn_r _ [197, 198, 199, 200, 201, 202, 203, 204, 205, 206, 207, 208, 209, 210, 211, 212, 213, 214, 215, 216, 217, 218, 219, 220] (by decide +kernel) (by decide +kernel)
set_option maxRecDepth 20000 in
theorem ggL_isDone_L_isGroup_wsL_isGroup_r10 : GoodIn wsL_isDone wsL_isGroup_r10 := goodIn_r _ [221, 222, 223, 224, 225, 226, 227, 228, 229, 230, 231, 232, 233, 234, 235, 236, 237, 238, 239, 240, 241, 242, 243, 244] (by decide +kernel) (by decide +kernel)
set_option maxRecDepth 20000 in
theorem ggL_isDone_L_isGroup_wsL_isGroup_r11 : GoodIn wsL_isDone wsL_isGroup_r11 := goodIn_r _ [245, 259, 260, 261, 275, 276, 277, 278, 269, 270, 271] (by decide +kernel) (by decide +kernel)
set_option maxRecDepth 20000 in
theorem ggL_isDone_L_isGroup_wsX50 : GoodIn wsL_isDone wsX50 := goodIn_r _ [282, 283, 284, 285, 286, 287, 288, 289, 290, 291, 292, 293, 294, 295] (by decide +kernel) (by decide +kernel)
set_option maxRecDepth 20000 in
theorem ggL_isDone_L_isGroup_wsX20 : GoodIn wsL_isDone wsX20 := goodIn_r _ [296, 297, 298, 299, 300, 301, 302] (by decide +kernel) (by decide +kernel)
set_option maxRecDepth 20000 in
theorem ggL_isDone_L_isGroup_wsX00 : GoodIn wsL_isDone wsX00 := goodIn_r _ [303, 304, 305, 306, 307] (by decide +kernel) (by decide +kernel)
set_option maxRecDepth 20000 in
theorem ggL_isDone_L_isGroup_wsX10 : GoodIn wsL_isDone wsX10 := goodIn_r _ [308, 309, 310, 311, 312, 313] (by decide +kernel) (by decide +kernel)
set_option maxRecDepth 20000 in
theorem ggL_isDone_L_isGroup_wsX30 : GoodIn wsL_isDone wsX30 := goodIn_r _ [314, 315] (by decide +kernel) (by decide +kernel)
set_option maxRecDepth 100000 in
theorem ggL_isDone_L_isGroup_code : GoodIn wsL_isDone [Cond.code yL_isGroup cL_isGroup 12 (some .boolean)] := goodIn_sub (fun w hw => by rw [List.mem_singleton.mp hw]; exact List.mem_of_getElem? (i := 274) (by rfl)) (by rfl)
set_option maxRecDepth 20000 in
theorem ggL_isDone_L_isGroup : GoodIn wsL_isDone wsL_isGroup := goodIn_ca (goodIn_ca (goodIn_ca (goodIn_app ggL_isDone_L_isGroup_code (goodIn_app (goodIn_app (goodIn_app (goodIn_app (goodIn_app (goodIn_app ggL_isDone_L_isGroup_wsL_isGroup_r1 (goodIn_app ggL_isDone_L_isGroup_wsL_isGroup_r2 (goodIn_app ggL_isDone_L_isGroup_wsL_isGroup_r3 (goodIn_app ggL_isDone_L_isGroup_wsL_isGroup_r4 (goodIn_app ggL_isDone_L_isGroup_wsL_isGroup_r5 (goodIn_app ggL_isDone_L_isGroup_wsL_isGroup_r6 (goodIn_app ggL_isDone_L_isGroup_wsL_isGroup_r7 (goodIn_app ggL_isDone_L_isGroup_wsL_isGroup_r8 (goodIn_app ggL_isDone_L_isGroup_wsL_isGroup_r9 (goodIn_app ggL_isDone_L_isGroup_wsL_isGroup_r10 ggL_isDone_L_isGroup_wsL_isGroup_r11)))))))))) ggL_isDone_L_isGroup_wsX50) ggL_isDone_L_isGroup_wsX20) ggL_isDone_L_isGroup_wsX00) ggL_isDone_L_isGroup_wsX10) ggL_isDone_L_isGroup_wsX30)) (goodIn_sub (fun _ h => List.mem_cons_of_mem _ (List.mem_append_left _ (List.mem_append_left _ (List.mem_append_right _ h)))) (by decide +kernel))) (goodIn_sub (fun _ h => List.mem_cons_of_mem _ (List.mem_append_left _ (List.mem_append_right _ h))) (by decide +kernel))) (goodIn_sub (fun _ h => List.mem_cons_of_mem _ (List.mem_append_right _ h)) (by decide +kernel))
set_option maxRecDepth 20000 in
theorem gL_isDone_L_isGroup : GoodIn wsL_isDone (va_wsS RL 133 yL_isGroup wsL_isGroup) := goodIn_app (goodIn_of _ (by decide +kernel)) ggL_isDone_L_isGroup
set_option maxRecDepth 20000 in
theorem ggL_isDone_L_isEnd_wsL_isEnd_r1 : GoodIn wsL_isDone wsL_isEnd_r1 := goodIn_r _ [259, 260, 3, 261, 6, 7, 8, 9, 10, 11, 12, 13, 14, 15, 16, 17, 18, 19, 20, 21, 22, 23, 24, 25] (by decide +kernel) (by decide +kernel)
set_option maxRecDepth 20000 in
theorem ggL_isDone_L_isEnd_wsL_isEnd_r2 : GoodIn wsL_isDone wsL_isEnd_r2 := goodIn_r _ [26, 27, 28, 29, 30, 31, 32, 33, 34, 35, 36, 37, 38, 39, 40, 41, 42, 43, 44, 45, 46, 47, 48, 49] (by decide +kernel) (by decide +kernel)
set_option maxRecDepth 20000 in
theorem ggL_isDone_L_isEnd_wsL_isEnd_r3 : GoodIn wsL_isDone wsL_isEnd_r3 := goodIn_r _ [50, 51, 52, 53, 54, 55, 56, 57, 58, 59, 60, 61, 62, 63, 64, 65, 66, 67, 68, 69, 70, 71, 72, 73] (by decide +kernel) (by decide +kernel)
set_option maxRecDepth 20000 in
theorem ggL_isDone_L_isEnd_wsL_isEnd_r4 : GoodIn wsL_isDone wsL_isEnd_r4 := goodIn_r _ [74, 75, 76, 77, 78, 79, 80, 81, 82, 83, 84, 85, 86, 87, 88, 89, 90, 91, 92, 93, 94, 95, 96, 97] (by decide +kernel) (by decide +kernel)
set_option maxRecDepth 20000 in
theorem ggL_isDone_L_isEnd_wsL_isEnd_r5 : GoodIn wsL_isDone wsL_isEnd_r5 := goodIn_r _ [98, 99, 100, 101, 102, 103, 104, 105, 106, 107, 108, 109, 110, 111, 112, 113, 114, 115, 116, 117, 118, 119, 120, 121] (by decide +kernel) (by decide +kernel)
set_option maxRecDepth 20000 in
theorem ggL_isDone_L_isEnd_wsL_isEnd_r6 : GoodIn wsL_isDone wsL_isEnd_r6 := goodIn_r _ [122, 123, 124, 125, 126, 127, 128, 129, 130, 131, 132, 133, 134, 135, 136, 137, 138, 139, 140, 141, 142, 143, 144, 145] (by decide +kernel) (by decide +kernel)
set_option maxRecDepth 20000 in
theorem ggL_isDone_L_isEnd_wsL_isEnd_r7 : GoodIn wsL_isDone wsL_isEnd_r7 := goodIn_r _ [146, 147, 148, 149, 150, 151, 152, 153, 154, 155, 156, 157, 158, 159, 160, 161, 162, 163, 164, 165, 166, 167, 168, 169] (by decide +kernel) (by decide +kernel)
set_option maxRecDepth 20000 in
theorem ggL_isDone_L_isEnd_wsL_isEnd_r8 : GoodIn wsL_isDone wsL_isEnd_r8 := goodIn_r _ [170, 171, 172, 173, 174, 175, 176, 177, 178, 179, 180, 181, 182, 183, 184, 185, 186, 187, 188, 189, 190, 191, 192, 193] (by decide +kernel) (by decide +kernel)
set_option maxRecDepth 20000 in
theorem ggL_isDone_L_isEnd_wsL_isEnd_r9 : GoodIn wsL_isDone wsL_isEnd_r9 := goodIn_r _ [194, 195, 196, 197, 198, 199, 200, 201, 202, 203, 204, 205, 206, 207, 208, 209, 210, 211, 212, 213, 214, 215, 216, 217] (by decide +kernel) (by decide +kernel)
set_option maxRecDepth 20000 in
theorem ggL_isDone_L_isEnd_wsL_isEnd_r10 : GoodIn wsL_isDone wsL_isEnd_r10 := goodIn_r _ [218, 219, 220, 221, 222, 223, 224, 225, 226, 227, 228, 229, 230, 231, 232, 233, 234, 235, 236, 237, 238, 239, 240, 241] (by decide +kernel) (by decide +kernel)
set_option maxRecDepth 20000 in
theorem ggL_isDone_L_isEnd_wsL_isEnd_r11 : GoodIn wsL_isDone wsL_isEnd_r11 := goodIn_r _ [242, 243, 244, 245] (by decide +kernel) (by decide +kernel)
set_option maxRecDepth 20000 in
theorem ggL_isDone_L_isEnd_wsX50 : GoodIn wsL_isDone wsX50 := goodIn_r _ [282, 283, 284, 285, 286, 287, 288, 289, 290, 291, 292, 293, 294, 295] (by decide +kernel) (by decide +kernel)
set_option maxRecDepth 20000 in
theorem ggL_isDone_L_isEnd_wsX20 : GoodIn wsL_isDone wsX20 := goodIn_r _ [296, 297, 298, 299, 300, 301, 302] (by decide +kernel) (by decide +kernel)
set_option maxRecDepth 20000 in
theorem ggL_isDone_L_isEnd_wsX00 : GoodIn wsL_isDone wsX00 := goodIn_r _ [303, 304, 305, 306, 307] (by decide +kernel) (by decide +kernel)
set_option maxRecDepth 20000 in
theorem ggL_isDone_L_isEnd_wsX10 : GoodIn wsL_isDone wsX10 := goodIn_r _ [308, 309, 310, 311, 312, 313] (by decide +kernel) (by decide +kernel)
set_option maxRecDepth 20000 in
theorem ggL_isDone_L_isEnd_wsX30 : GoodIn wsL_isDone wsX30 := goodIn_r _ [314, 315] (by decide +kernel) (by decide +kernel)
set_option maxRecDepth 100000 in
theorem ggL_isDone_L_isEnd_code : GoodIn wsL_isDone [Cond.code yL_isEnd cL_isEnd 9 (some .boolean)] := goodIn_sub (fun w hw => by rw [List.mem_singleton.mp hw]; exact List.mem_of_getElem? (i := 281) (by rfl)) (by rfl)
set_option maxRecDepth 20000 in
theorem ggL_isDone_L_isEnd : GoodIn wsL_isDone wsL_isEnd := goodIn_ca (goodIn_ca (goodIn_ca (goodIn_app ggL_isDone_L_isEnd_code (goodIn_app (goodIn_app (goodIn_app (goodIn_app (goodIn_app (goodIn_app ggL_isDone_L_isEnd_wsL_isEnd_r1 (goodIn_app ggL_isDone_L_isEnd_wsL_isEnd_r2 (goodIn_app ggL_isDone_L_isEnd_wsL_isEnd_r3 (goodIn_app ggL_isDone_L_isEnd_wsL_isEnd_r4 (goodIn_app ggL_isDone_L_isEnd_wsL_isEnd_r5 (goodIn_app ggL_isDone_L_isEnd_wsL_isEnd_r6 (goodIn_app ggL_isDone_L_isEnd_wsL_isEnd_r7 (goodIn_app ggL_isDone_L_isEnd_wsL_isEnd_r8 (goodIn_app ggL_isDone_L_isEnd_wsL_isEnd_r9 (goodIn_app ggL_isDone_L_isEnd_wsL_isEnd_r10 ggL_isDone_L_isEnd_wsL_isEnd_r11)))))))))) ggL_isDone_L_isEnd_wsX50) ggL_isDone_L_isEnd_wsX20) ggL_isDone_L_isEnd_wsX00) ggL_isDone_L_isEnd_wsX10) ggL_isDone_L_isEnd_wsX30)) (goodIn_sub (fun _ h => List.mem_cons_of_mem _ (List.mem_append_left _ (List.mem_append_left _ (List.mem_append_right _ h)))) (by decide +kernel))) (goodIn_sub (fun _ h => List.mem_cons_of_mem _ (List.mem_append_left _ (List.mem_append_right _ h))) (by decide +kernel))) (goodIn_sub (fun _ h => List.mem_cons_of_mem _ (List.mem_append_right _ h)) (by decide +kernel))
set_option maxRecDepth 20000 in
theorem gL_isDone_L_isEnd : GoodIn wsL_isDone (va_wsS RL 137 yL_isEnd wsL_isEnd) := goodIn_app (goodIn_of _ (by decide +kernel)) ggL_isDone_L_isEnd
