theorem dL_areProducts_112 : decode cL_areProducts 112 = .ok (.iadd, 1) := by decide +kernel
theorem dL_areProducts_113 : decode cL_areProducts 113 = .ok (.iaload, 1) := by decide +kernel
theorem dL_areProducts_114 : decode cL_areProducts 114 = .ok (.i2f, 1) := by decide +kernel
theorem dL_areProducts_115 : decode cL_areProducts 115 = .ok (.aload_n 2, 1) := by decide +kernel
theorem dL_areProducts_116 : decode cL_areProducts 116 = .ok (.iconst 5, 1) := by decide +kernel
theorem dL_areProducts_117 : decode cL_areProducts 117 = .ok (.iaload, 1) := by decide +kernel
theorem dL_areProducts_118 : decode cL_areProducts 118 = .ok (.i2f, 1) := by decide +kernel
theorem dL_areProducts_119 : decode cL_areProducts 119 = .ok (.fdiv, 1) := by decide +kernel
theorem dL_areProducts_120 : decode cL_areProducts 120 = .ok (.fstore 5, 2) := by decide +kernel
theorem dL_areProducts_122 : decode cL_areProducts 122 = .ok (.aload_n 0, 1) := by decide +kernel
theorem dL_areProducts_123 : decode cL_areProducts 123 = .ok (.iload 4, 2) := by decide +kernel
theorem dL_areProducts_125 : decode cL_areProducts 125 = .ok (.invokevirtual 66, 3) := by decide +kernel
theorem dL_areProducts_128 : decode cL_areProducts 128 = .ok (.aload_n 1, 1) := by decide +kernel
theorem dL_areProducts_129 : decode cL_areProducts 129 = .ok (.bipush 6, 2) := by decide +kernel
theorem dL_areProducts_131 : decode cL_areProducts 131 = .ok (.iload 4, 2) := by decide +kernel
theorem dL_areProducts_133 : decode cL_areProducts 133 = .ok (.imul, 1) := by decide +kernel
theorem dL_areProducts_134 : decode cL_areProducts 134 = .ok (.iconst 3, 1) := by decide +kernel
theorem dL_areProducts_135 : decode cL_areProducts 135 = .ok (.iadd, 1) := by decide +kernel
theorem dL_areProducts_136 : decode cL_areProducts 136 = .ok (.iaload, 1) := by decide +kernel
theorem dL_areProducts_137 : decode cL_areProducts 137 = .ok (.if_icmp .ne 37, 3) := by decide +kernel
theorem dL_areProducts_140 : decode cL_areProducts 140 = .ok (.aload_n 0, 1) := by decide +kernel
theorem dL_areProducts_141 : decode cL_areProducts 141 = .ok (.iload 4, 2) := by decide +kernel
theorem dL_areProducts_143 : decode cL_areProducts 143 = .ok (.invokevirtual 69, 3) := by decide +kernel
theorem dL_areProducts_146 : decode cL_areProducts 146 = .ok (.aload_n 1, 1) := by decide +kernel
theorem dL_areProducts_147 : decode cL_areProducts 147 = .ok (.bipush 6, 2) := by decide +kernel
theorem dL_areProducts_149 : decode cL_areProducts 149 = .ok (.iload 4, 2) := by decide +kernel
theorem dL_areProducts_151 : decode cL_areProducts 151 = .ok (.imul, 1) := by decide +kernel
theorem dL_areProducts_152 : decode cL_areProducts 152 = .ok (.iconst 4, 1) := by decide +kernel
theorem dL_areProducts_153 : decode cL_areProducts 153 = .ok (.iadd, 1) := by decide +kernel
theorem dL_areProducts_154 : decode cL_areProducts 154 = .ok (.iaload, 1) := by decide +kernel
theorem dL_areProducts_155 : decode cL_areProducts 155 = .ok (.if_icmp .ne 19, 3) := by decide +kernel
theorem dL_areProducts_158 : decode cL_areProducts 158 = .ok (.aload_n 0, 1) := by decide +kernel
theorem dL_areProducts_159 : decode cL_areProducts 159 = .ok (.iload 4, 2) := by decide +kernel
theorem dL_areProducts_161 : decode cL_areProducts 161 = .ok (.invokevirtual 75, 3) := by decide +kernel
theorem dL_areProducts_164 : decode cL_areProducts 164 = .ok (.fload 5, 2) := by decide +kernel
theorem dL_areProducts_166 : decode cL_areProducts 166 = .ok (.fcmp .l, 1) := by decide +kernel
theorem dL_areProducts_167 : decode cL_areProducts 167 = .ok (.ifCond .ne 7, 3) := by decide +kernel
theorem dL_areProducts_170 : decode cL_areProducts 170 = .ok (.iconst 1, 1) := by decide +kernel
theorem dL_areProducts_171 : decode cL_areProducts 171 = .ok (.goto 4, 3) := by decide +kernel
theorem dL_areProducts_174 : decode cL_areProducts 174 = .ok (.iconst 0, 1) := by decide +kernel
theorem dL_areProducts_175 : decode cL_areProducts 175 = .ok (.istore_n 3, 1) := by decide +kernel
theorem dL_areProducts_176 : decode cL_areProducts 176 = .ok (.iinc 4 1, 3) := by decide +kernel
theorem dL_areProducts_179 : decode cL_areProducts 179 = .ok (.goto (-96), 3) := by decide +kernel
theorem dL_areProducts_182 : decode cL_areProducts 182 = .ok (.iconst 0, 1) := by decide +kernel
theorem dL_areProducts_183 : decode cL_areProducts 183 = .ok (.istore 4, 2) := by decide +kernel
theorem dL_areProducts_185 : decode cL_areProducts 185 = .ok (.iload 4, 2) := by decide +kernel
theorem dL_areProducts_187 : decode cL_areProducts 187 = .ok (.iconst 3, 1) := by decide +kernel
theorem dL_areProducts_188 : decode cL_areProducts 188 = .ok (.if_icmp .ge 37, 3) := by decide +kernel
theorem dL_areProducts_191 : decode cL_areProducts 191 = .ok (.iload_n 3, 1) := by decide +kernel
theorem dL_areProducts_192 : decode cL_areProducts 192 = .ok (.ifCond .eq 33, 3) := by decide +kernel
theorem dL_areProducts_195 : decode cL_areProducts 195 = .ok (.aload_n 0, 1) := by decide +kernel
theorem dL_areProducts_196 : decode cL_areProducts 196 = .ok (.iconst (-1), 1) := by decide +kernel
theorem dL_areProducts_197 : decode cL_areProducts 197 = .ok (.iload 4, 2) := by decide +kernel
theorem dL_areProducts_199 : decode cL_areProducts 199 = .ok (.isub, 1) := by decide +kernel
theorem dL_areProducts_200 : decode cL_areProducts 200 = .ok (.invokevirtual 72, 3) := by decide +kernel
theorem dL_areProducts_203 : decode cL_areProducts 203 = .ok (.aload_n 2, 1) := by decide +kernel
theorem dL_areProducts_204 : decode cL_areProducts 204 = .ok (.bipush 7, 2) := by decide +kernel
theorem dL_areProducts_206 : decode cL_areProducts 206 = .ok (.iload 4, 2) := by decide +kernel
theorem dL_areProducts_208 : decode cL_areProducts 208 = .ok (.iadd, 1) := by decide +kernel
theorem dL_areProducts_209 : decode cL_areProducts 209 = .ok (.iaload, 1) := by decide +kernel
theorem dL_areProducts_210 : decode cL_areProducts 210 = .ok (.if_icmp .ne 7, 3) := by decide +kernel
theorem dL_areProducts_213 : decode cL_areProducts 213 = .ok (.iconst 1, 1) := by decide +kernel
theorem dL_areProducts_214 : decode cL_areProducts 214 = .ok (.goto 4, 3) := by decide +kernel
theorem dL_areProducts_217 : decode cL_areProducts 217 = .ok (.iconst 0, 1) := by decide +kernel
theorem dL_areProducts_218 : decode cL_areProducts 218 = .ok (.istore_n 3, 1) := by decide +kernel
theorem dL_areProducts_219 : decode cL_areProducts 219 = .ok (.iinc 4 1, 3) := by decide +kernel
theorem dL_areProducts_222 : decode cL_areProducts 222 = .ok (.goto (-37), 3) := by decide +kernel
theorem dL_areProducts_225 : decode cL_areProducts 225 = .ok (.iload_n 3, 1) := by decide +kernel
theorem dL_areProducts_226 : decode cL_areProducts 226 = .ok (.ireturn, 1) := by decide +kernel
set_option maxRecDepth 20000 in
theorem ggL_isProduct_X5_products : GoodIn wsL_isProduct wsX5_products := goodIn_r _ [5, 6, 246, 247, 248, 249, 250, 251, 252, 253, 254, 255, 256, 257, 258, 259] (by decide +kernel) (by decide +kernel)
set_option maxRecDepth 20000 in
theorem gL_isProduct_X5_products : GoodIn wsL_isProduct (wsV RL 100 RX5 yX5_products wsX5_products) := goodIn_app (goodIn_of _ (by decide +kernel)) ggL_isProduct_X5_products
set_option maxRecDepth 20000 in
theorem ggL_isProduct_L_does_wsL_does_r1 : GoodIn wsL_isProduct wsL_does_r1 := goodIn_r _ [11, 12, 13, 14, 15, 9, 16, 17, 18, 19, 4, 20, 21, 22, 23, 24, 25, 26, 27, 28, 29, 30, 31, 32] (by decide +kernel) (by decide +kernel)
set_option maxRecDepth 20000 in
theorem ggL_isProduct_L_does_wsL_does_r2 : GoodIn wsL_isProduct wsL_does_r2 := goodIn_r _ [33, 34, 35, 36, 37, 38, 6, 39, 40, 41, 42, 43, 44, 45, 46, 47, 48, 49, 50, 51, 52, 53, 54, 55] (by decide +kernel) (by decide +kernel)
set_option maxRecDepth 20000 in
theorem ggL_isProduct_L_does_wsL_does_r3 : GoodIn wsL_isProduct wsL_does_r3 := goodIn_r _ [56, 57, 58, 59, 60, 61, 62, 63, 64, 65, 66, 67, 68, 69, 70, 71, 72, 73, 74, 75, 76, 77, 78, 79] (by decide +kernel) (by decide +kernel)
set_option maxRecDepth 20000 in
theorem ggL_isProduct_L_does_wsL_does_r4 : GoodIn wsL_isProduct wsL_does_r4 := goodIn_r _ [80, 81, 82, 83, 84, 85, 86, 87, 88, 89, 90, 91, 92, 93, 94, 95, 96, 97, 98, 99, 100, 101, 102, 103] (by decide +kernel) (by decide +kernel)
set_option maxRecDepth 20000 in
theorem ggL_isProduct_L_does_wsL_does_r5 : GoodIn wsL_isProduct wsL_does_r5 := goodIn_r _ [104, 105, 106, 107, 108, 109, 110, 111, 112, 113, 114, 115, 116, 117, 118, 119, 120, 121, 122, 123, 124, 125, 126, 127] (by decide +kernel) (by decide +kernel)
set_option maxRecDepth 20000 in
theorem ggL_isProduct_L_does_wsL_does_r6 : GoodIn wsL_isProduct wsL_does_r6 := goodIn_r _ [128, 129, 130, 131, 132, 133, 134, 135, 136, 137, 138, 139, 140, 141, 142, 143, 144, 145, 146, 147, 148, 149, 150, 151] (by decide +kernel) (by decide +kernel)
set_option maxRecDepth 20000 in
theorem ggL_isProduct_L_does_wsL_does_r7 : GoodIn wsL_isProduct wsL_does_r7 := goodIn_r _ [152, 153, 154, 155, 156, 157, 158, 159, 160, 161, 162, 163, 164, 165, 166, 167, 168, 169, 170, 171, 172, 173, 174, 175] (by decide +kernel) (by decide +kernel)
set_option maxRecDepth 20000 in
theorem ggL_isProduct_L_does_wsL_does_r8 : GoodIn wsL_isProduct wsL_does_r8 := goodIn_r _ [176, 177, 178, 179, 180, 181, 182, 183, 184, 185, 186, 187, 188, 189, 190, 191, 192, 193, 194, 195, 196, 197, 198, 199] (by decide +kernel) (by decide +kernel)
set_option maxRecDepth 20000 in
theorem ggL_isProduct_L_does_wsL_does_r9 : GoodIn wsL_isProduct wsL_does_r9 := goodIn_r _ [200, 201, 202, 203, 204, 205, 206, 207, 208, 209, 210, 211, 212, 213, 214, 215, 216, 217, 218, 219, 220, 221, 222, 223] (by decide +kernel) (by decide +kernel)
set_option maxRecDepth 20000 in
theorem ggL_isProduct_L_does_wsL_does_r10 : GoodIn wsL_isProduct wsL_does_r10 := goodIn_r _ [224, 225, 226, 227, 228, 229, 230, 231, 232, 233, 234, 235, 236, 237, 238, 239, 240, 241, 242, 243, 244, 245] (by decide +kernel) (by decide +kernel)
set_option maxRecDepth 20000 in
theorem ggL_isProduct_L_does_wsX50 : GoodIn wsL_isProduct wsX50 := goodIn_r _ [246, 247, 248, 249, 250, 251, 252, 253, 254, 255, 256, 257, 258, 259] (by decide +kernel) (by decide +kernel)
set_option maxRecDepth 20000 in
theorem ggL_isProduct_L_does_wsX20 : GoodIn wsL_isProduct wsX20 := goodIn_r _ [260, 261, 262, 263, 264, 265, 266] (by decide +kernel) (by decide +kernel)
set_option maxRecDepth 20000 in
theorem ggL_isProduct_L_does_wsX00 : GoodIn wsL_isProduct wsX00 := goodIn_r _ [267, 268, 269, 270, 271] (by decide +kernel) (by decide +kernel)
set_option maxRecDepth 20000 in
theorem ggL_isProduct_L_does_wsX10 : GoodIn wsL_isProduct wsX10 := goodIn_r _ [272, 273, 274, 275, 276, 277] (by decide +kernel) (by decide +kernel)
set_option maxRecDepth 20000 in
theorem ggL_isProduct_L_does_wsX30 : GoodIn wsL_isProduct wsX30 := goodIn_r _ [278, 279] (by decide +kernel) (by decide +kernel)
set_option maxRecDepth 100000 in
theorem ggL_isProduct_L_does_code : GoodIn wsL_isProduct [Cond.codeWith yL_does cL_does 7 (some .int) [(0, 108, 109, 45), (0, 108, 114, 47), (0, 108, 119, 49)]] := goodIn_sub (fun w hw => by rw [List.mem_singleton.mp hw]; exact List.mem_of_getElem? (i := 10) (by rfl)) (by rfl)
set_option maxRecDepth 20000 in
theorem ggL_isProduct_L_does : GoodIn wsL_isProduct wsL_does := goodIn_ca (goodIn_ca (goodIn_ca (goodIn_app ggL_isProduct_L_does_code (goodIn_app (goodIn_app (goodIn_app (goodIn_app (goodIn_app (goodIn_app ggL_isProduct_L_does_wsL_does_r1 (goodIn_app ggL_isProduct_L_does_wsL_does_r2 (goodIn_app ggL_isProduct_L_does_wsL_does_r3 (goodIn_app ggL_isProduct_L_does_wsL_does_r4 (goodIn_app ggL_isProduct_L_does_wsL_does_r5 (goodIn_app ggL_isProduct_L_does_wsL_does_r6 (goodIn_app ggL_isProduct_L_does_wsL_does_r7 (goodIn_app ggL_isProduct_L_does_wsL_does_r8 (goodIn_app ggL_isProduct_L_does_wsL_does_r9 ggL_isProduct_L_does_wsL_does_r10))))))))) ggL_isProduct_L_does_wsX50) ggL_isProduct_L_does_wsX20) ggL_isProduct_L_does_wsX00) ggL_isProduct_L_does_wsX10) ggL_isProduct_L_does_wsX30)) (goodIn_sub (fun _ h => List.mem_cons_of_mem _ (List.mem_append_left _ (List.mem_append_left _ (List.mem_append_right _ h)))) (by decide +kernel))) (goodIn_sub (fun _ h => List.mem_cons_of_mem _ (List.mem_append_left _ (List.mem_append_right _ h))) (by decide +kernel))) (goodIn_sub (fun _ h => List.mem_cons_of_mem _ (List.mem_append_right _ h)) (by decide +kernel))
set_option maxRecDepth 20000 in
theorem gL_isProduct_L_does : GoodIn wsL_isProduct (va_wsS RL 113 yL_does wsL_does) := goodIn_app (goodIn_of _ (by decide +kernel)) ggL_isProduct_L_does
theorem dL_isProduct_0 : decode cL_isProduct 0 = .ok (.iload 4, 2) := by decide +kernel
theorem dL_isProduct_2 : decode cL_isProduct 2 = .ok (.iconst 4, 1) := by decide +kernel
theorem dL_isProduct_3 : decode cL_isProduct 3 = .ok (.irem, 1) := by decide +kernel
theorem dL_isProduct_4 : decode cL_isProduct 4 = .ok (.istore 7, 2) := by decide +kernel
theorem dL_isProduct_6 : decode cL_isProduct 6 = .ok (.iload 5, 2) := by decide +kernel
theorem dL_isProduct_8 : decode cL_isProduct 8 = .ok (.iconst 4, 1) := by decide +kernel
theorem dL_isProduct_9 : decode cL_isProduct 9 = .ok (.irem, 1) := by decide +kernel
theorem dL_isProduct_10 : decode cL_isProduct 10 = .ok (.istore 8, 2) := by decide +kernel
theorem dL_isProduct_12 : decode cL_isProduct 12 = .ok (.iload 6, 2) := by decide +kernel
theorem dL_isProduct_14 : decode cL_isProduct 14 = .ok (.bipush 25, 2) := by decide +kernel
theorem dL_isProduct_16 : decode cL_isProduct 16 = .ok (.irem, 1) := by decide +kernel
theorem dL_isProduct_17 : decode cL_isProduct 17 = .ok (.ifCond .ne 9, 3) := by decide +kernel
theorem dL_isProduct_20 : decode cL_isProduct 20 = .ok (.sipush 1001, 3) := by decide +kernel
theorem dL_isProduct_23 : decode cL_isProduct 23 = .ok (.goto 13, 3) := by decide +kernel
theorem dL_isProduct_26 : decode cL_isProduct 26 = .ok (.iconst 1, 1) := by decide +kernel
theorem dL_isProduct_27 : decode cL_isProduct 27 = .ok (.iload 6, 2) := by decide +kernel
theorem dL_isProduct_29 : decode cL_isProduct 29 = .ok (.bipush 6, 2) := by decide +kernel
theorem dL_isProduct_31 : decode cL_isProduct 31 = .ok (.irem, 1) := by decide +kernel
theorem dL_isProduct_32 : decode cL_isProduct 32 = .ok (.bipush 40, 2) := by decide +kernel
theorem dL_isProduct_34 : decode cL_isProduct 34 = .ok (.imul, 1) := by decide +kernel
theorem dL_isProduct_35 : decode cL_isProduct 35 = .ok (.iadd, 1) := by decide +kernel
theorem dL_isProduct_36 : decode cL_isProduct 36 = .ok (.istore 9, 2) := by decide +kernel
theorem dL_isProduct_38 : decode cL_isProduct 38 = .ok (.iload 7, 2) := by decide +kernel
theorem dL_isProduct_40 : decode cL_isProduct 40 = .ok (.iconst 3, 1) := by decide +kernel
theorem dL_isProduct_41 : decode cL_isProduct 41 = .ok (.if_icmp .ge 13, 3) := by decide +kernel
theorem dL_isProduct_44 : decode cL_isProduct 44 = .ok (.iload 8, 2) := by decide +kernel
theorem dL_isProduct_46 : decode cL_isProduct 46 = .ok (.iconst 3, 1) := by decide +kernel
theorem dL_isProduct_47 : decode cL_isProduct 47 = .ok (.if_icmp .ge 7, 3) := by decide +kernel
theorem dL_isProduct_50 : decode cL_isProduct 50 = .ok (.iconst 1, 1) := by decide +kernel
theorem dL_isProduct_51 : decode cL_isProduct 51 = .ok (.goto 4, 3) := by decide +kernel
theorem dL_isProduct_54 : decode cL_isProduct 54 = .ok (.iconst 0, 1) := by decide +kernel
theorem dL_isProduct_55 : decode cL_isProduct 55 = .ok (.istore 10, 2) := by decide +kernel
theorem dL_isProduct_57 : decode cL_isProduct 57 = .ok (.iload 8, 2) := by decide +kernel
theorem dL_isProduct_59 : decode cL_isProduct 59 = .ok (.iload 7, 2) := by decide +kernel
theorem dL_isProduct_61 : decode cL_isProduct 61 = .ok (.if_icmp .lt 15, 3) := by decide +kernel
theorem dL_isProduct_64 : decode cL_isProduct 64 = .ok (.iload 9, 2) := by decide +kernel
theorem dL_isProduct_66 : decode cL_isProduct 66 = .ok (.sipush 1001, 3) := by decide +kernel
theorem dL_isProduct_69 : decode cL_isProduct 69 = .ok (.if_icmp .ge 7, 3) := by decide +kernel
theorem dL_isProduct_72 : decode cL_isProduct 72 = .ok (.iconst 1, 1) := by decide +kernel
theorem dL_isProduct_73 : decode cL_isProduct 73 = .ok (.goto 4, 3) := by decide +kernel
theorem dL_isProduct_76 : decode cL_isProduct 76 = .ok (.iconst 0, 1) := by decide +kernel
theorem dL_isProduct_77 : decode cL_isProduct 77 = .ok (.istore 11, 2) := by decide +kernel
theorem dL_isProduct_79 : decode cL_isProduct 79 = .ok (.iconst 0, 1) := by decide +kernel
theorem dL_isProduct_80 : decode cL_isProduct 80 = .ok (.istore 12, 2) := by decide +kernel
theorem dL_isProduct_82 : decode cL_isProduct 82 = .ok (.iconst 0, 1) := by decide +kernel
theorem dL_isProduct_83 : decode cL_isProduct 83 = .ok (.istore 13, 2) := by decide +kernel
theorem dL_isProduct_85 : decode cL_isProduct 85 = .ok (.iload 13, 2) := by decide +kernel
theorem dL_isProduct_87 : decode cL_isProduct 87 = .ok (.aload_n 3, 1) := by decide +kernel
theorem dL_isProduct_88 : decode cL_isProduct 88 = .ok (.iconst 4, 1) := by decide +kernel
theorem dL_isProduct_89 : decode cL_isProduct 89 = .ok (.iaload, 1) := by decide +kernel
theorem dL_isProduct_90 : decode cL_isProduct 90 = .ok (.if_icmp .ge 61, 3) := by decide +kernel
theorem dL_isProduct_93 : decode cL_isProduct 93 = .ok (.iload 12, 2) := by decide +kernel
theorem dL_isProduct_95 : decode cL_isProduct 95 = .ok (.ifCond .ne 43, 3) := by decide +kernel
theorem dL_isProduct_98 : decode cL_isProduct 98 = .ok (.aload_n 1, 1) := by decide +kernel
theorem dL_isProduct_99 : decode cL_isProduct 99 = .ok (.bipush 6, 2) := by decide +kernel
theorem dL_isProduct_101 : decode cL_isProduct 101 = .ok (.iload 13, 2) := by decide +kernel
theorem dL_isProduct_103 : decode cL_isProduct 103 = .ok (.imul, 1) := by decide +kernel
theorem dL_isProduct_104 : decode cL_isProduct 104 = .ok (.iaload, 1) := by decide +kernel
theorem dL_isProduct_105 : decode cL_isProduct 105 = .ok (.iload 7, 2) := by decide +kernel
theorem dL_isProduct_107 : decode cL_isProduct 107 = .ok (.if_icmp .ne 35, 3) := by decide +kernel
theorem dL_isProduct_110 : decode cL_isProduct 110 = .ok (.aload_n 1, 1) := by decide +kernel
theorem dL_isProduct_111 : decode cL_isProduct 111 = .ok (.bipush 6, 2) := by decide +kernel
theorem dL_isProduct_113 : decode cL_isProduct 113 = .ok (.iload 13, 2) := by decide +kernel
theorem dL_isProduct_115 : decode cL_isProduct 115 = .ok (.imul, 1) := by decide +kernel
theorem dL_isProduct_116 : decode cL_isProduct 116 = .ok (.iconst 1, 1) := by decide +kernel
theorem dL_isProduct_117 : decode cL_isProduct 117 = .ok (.iadd, 1) := by decide +kernel
theorem dL_isProduct_118 : decode cL_isProduct 118 = .ok (.iaload, 1) := by decide +kernel
theorem dL_isProduct_119 : decode cL_isProduct 119 = .ok (.iload 8, 2) := by decide +kernel
theorem dL_isProduct_121 : decode cL_isProduct 121 = .ok (.if_icmp .ne 21, 3) := by decide +kernel
theorem dL_isProduct_124 : decode cL_isProduct 124 = .ok (.aload_n 1, 1) := by decide +kernel
theorem dL_isProduct_125 : decode cL_isProduct 125 = .ok (.bipush 6, 2) := by decide +kernel
theorem dL_isProduct_127 : decode cL_isProduct 127 = .ok (.iload 13, 2) := by decide +kernel
theorem dL_isProduct_129 : decode cL_isProduct 129 = .ok (.imul, 1) := by decide +kernel
theorem dL_isProduct_130 : decode cL_isProduct 130 = .ok (.iconst 2, 1) := by decide +kernel
theorem dL_isProduct_131 : decode cL_isProduct 131 = .ok (.iadd, 1) := by decide +kernel
theorem dL_isProduct_132 : decode cL_isProduct 132 = .ok (.iaload, 1) := by decide +kernel
theorem dL_isProduct_133 : decode cL_isProduct 133 = .ok (.iload 9, 2) := by decide +kernel
theorem dL_isProduct_135 : decode cL_isProduct 135 = .ok (.if_icmp .ne 7, 3) := by decide +kernel
theorem dL_isProduct_138 : decode cL_isProduct 138 = .ok (.iconst 1, 1) := by decide +kernel
theorem dL_isProduct_139 : decode cL_isProduct 139 = .ok (.goto 4, 3) := by decide +kernel
theorem dL_isProduct_142 : decode cL_isProduct 142 = .ok (.iconst 0, 1) := by decide +kernel
theorem dL_isProduct_143 : decode cL_isProduct 143 = .ok (.istore 12, 2) := by decide +kernel
theorem dL_isProduct_145 : decode cL_isProduct 145 = .ok (.iinc 13 1, 3) := by decide +kernel
theorem dL_isProduct_148 : decode cL_isProduct 148 = .ok (.goto (-63), 3) := by decide +kernel
theorem dL_isProduct_151 : decode cL_isProduct 151 = .ok (.iload 10, 2) := by decide +kernel
theorem dL_isProduct_153 : decode cL_isProduct 153 = .ok (.ifCond .eq 36, 3) := by decide +kernel
theorem dL_isProduct_156 : decode cL_isProduct 156 = .ok (.iload 11, 2) := by decide +kernel
theorem dL_isProduct_158 : decode cL_isProduct 158 = .ok (.ifCond .eq 31, 3) := by decide +kernel
theorem dL_isProduct_161 : decode cL_isProduct 161 = .ok (.iload 12, 2) := by decide +kernel
theorem dL_isProduct_163 : decode cL_isProduct 163 = .ok (.ifCond .ne 26, 3) := by decide +kernel
theorem dL_isProduct_166 : decode cL_isProduct 166 = .ok (.aload_n 3, 1) := by decide +kernel
theorem dL_isProduct_167 : decode cL_isProduct 167 = .ok (.iconst 4, 1) := by decide +kernel
theorem dL_isProduct_168 : decode cL_isProduct 168 = .ok (.iaload, 1) := by decide +kernel
theorem dL_isProduct_169 : decode cL_isProduct 169 = .ok (.bipush 6, 2) := by decide +kernel
theorem dL_isProduct_171 : decode cL_isProduct 171 = .ok (.if_icmp .ne 18, 3) := by decide +kernel
theorem dL_isProduct_174 : decode cL_isProduct 174 = .ok (.aload_n 0, 1) := by decide +kernel
theorem dL_isProduct_175 : decode cL_isProduct 175 = .ok (.invokevirtual 100, 3) := by decide +kernel
theorem dL_isProduct_178 : decode cL_isProduct 178 = .ok (.bipush 6, 2) := by decide +kernel
theorem dL_isProduct_180 : decode cL_isProduct 180 = .ok (.if_icmp .ne 7, 3) := by decide +kernel
theorem dL_isProduct_183 : decode cL_isProduct 183 = .ok (.iconst 1, 1) := by decide +kernel
theorem dL_isProduct_184 : decode cL_isProduct 184 = .ok (.goto 4, 3) := by decide +kernel
theorem dL_isProduct_187 : decode cL_isProduct 187 = .ok (.iconst 0, 1) := by decide +kernel
theorem dL_isProduct_188 : decode cL_isProduct 188 = .ok (.ireturn, 1) := by decide +kernel
theorem dL_isProduct_189 : decode cL_isProduct 189 = .ok (.iload 10, 2) := by decide +kernel
theorem dL_isProduct_191 : decode cL_isProduct 191 = .ok (.ifCond .ne 8, 3) := by decide +kernel
theorem dL_isProduct_194 : decode cL_isProduct 194 = .ok (.bipush (-30), 2) := by decide +kernel
theorem dL_isProduct_196 : decode cL_isProduct 196 = .ok (.goto 26, 3) := by decide +kernel
theorem dL_isProduct_199 : decode cL_isProduct 199 = .ok (.iload 11, 2) := by decide +kernel
theorem dL_isProduct_201 : decode cL_isProduct 201 = .ok (.ifCond .ne 8, 3) := by decide +kernel
theorem dL_isProduct_204 : decode cL_isProduct 204 = .ok (.bipush (-20), 2) := by decide +kernel
theorem dL_isProduct_206 : decode cL_isProduct 206 = .ok (.goto 16, 3) := by decide +kernel
theorem dL_isProduct_209 : decode cL_isProduct 209 = .ok (.iload 12, 2) := by decide +kernel
theorem dL_isProduct_211 : decode cL_isProduct 211 = .ok (.ifCond .eq 8, 3) := by decide +kernel
theorem dL_isProduct_214 : decode cL_isProduct 214 = .ok (.bipush (-10), 2) := by decide +kernel
theorem dL_isProduct_216 : decode cL_isProduct 216 = .ok (.goto 6, 3) := by decide +kernel
theorem dL_isProduct_219 : decode cL_isProduct 219 = .ok (.aload_n 3, 1) := by decide +kernel
theorem dL_isProduct_220 : decode cL_isProduct 220 = .ok (.iconst 4, 1) := by decide +kernel
theorem dL_isProduct_221 : decode cL_isProduct 221 = .ok (.iaload, 1) := by decide +kernel
theorem dL_isProduct_222 : decode cL_isProduct 222 = .ok (.istore 13, 2) := by decide +kernel
theorem dL_isProduct_224 : decode cL_isProduct 224 = .ok (.iload 13, 2) := by decide +kernel
theorem dL_isProduct_226 : decode cL_isProduct 226 = .ok (.ifCond .lt 87, 3) := by decide +kernel
theorem dL_isProduct_229 : decode cL_isProduct 229 = .ok (.bipush 6, 2) := by decide +kernel
theorem dL_isProduct_231 : decode cL_isProduct 231 = .ok (.iload 13, 2) := by decide +kernel
theorem dL_isProduct_233 : decode cL_isProduct 233 = .ok (.imul, 1) := by decide +kernel
theorem dL_isProduct_234 : decode cL_isProduct 234 = .ok (.istore 14, 2) := by decide +kernel
theorem dL_isProduct_236 : decode cL_isProduct 236 = .ok (.aload_n 1, 1) := by decide +kernel
theorem dL_isProduct_237 : decode cL_isProduct 237 = .ok (.iload 14, 2) := by decide +kernel
theorem dL_isProduct_239 : decode cL_isProduct 239 = .ok (.iload 7, 2) := by decide +kernel
theorem dL_isProduct_241 : decode cL_isProduct 241 = .ok (.iastore, 1) := by decide +kernel
theorem dL_isProduct_242 : decode cL_isProduct 242 = .ok (.aload_n 1, 1) := by decide +kernel
theorem dL_isProduct_243 : decode cL_isProduct 243 = .ok (.iload 14, 2) := by decide +kernel
theorem dL_isProduct_245 : decode cL_isProduct 245 = .ok (.iconst 1, 1) := by decide +kernel
theorem dL_isProduct_246 : decode cL_isProduct 246 = .ok (.iadd, 1) := by decide +kernel
theorem dL_isProduct_247 : decode cL_isProduct 247 = .ok (.iload 8, 2) := by decide +kernel
theorem dL_isProduct_249 : decode cL_isProduct 249 = .ok (.iastore, 1) := by decide +kernel
theorem dL_isProduct_250 : decode cL_isProduct 250 = .ok (.aload_n 1, 1) := by decide +kernel
theorem dL_isProduct_251 : decode cL_isProduct 251 = .ok (.iload 14, 2) := by decide +kernel
theorem dL_isProduct_253 : decode cL_isProduct 253 = .ok (.iconst 2, 1) := by decide +kernel
theorem dL_isProduct_254 : decode cL_isProduct 254 = .ok (.iadd, 1) := by decide +kernel
theorem dL_isProduct_255 : decode cL_isProduct 255 = .ok (.iload 9, 2) := by decide +kernel
theorem dL_isProduct_257 : decode cL_isProduct 257 = .ok (.iastore, 1) := by decide +kernel
theorem dL_isProduct_258 : decode cL_isProduct 258 = .ok (.aload_n 1, 1) := by decide +kernel
theorem dL_isProduct_259 : decode cL_isProduct 259 = .ok (.iload 14, 2) := by decide +kernel
theorem dL_isProduct_261 : decode cL_isProduct 261 = .ok (.iconst 3, 1) := by decide +kernel
theorem dL_isProduct_262 : decode cL_isProduct 262 = .ok (.iadd, 1) := by decide +kernel
theorem dL_isProduct_263 : decode cL_isProduct 263 = .ok (.iconst 0, 1) := by decide +kernel
theorem dL_isProduct_264 : decode cL_isProduct 264 = .ok (.iastore, 1) := by decide +kernel
theorem dL_isProduct_265 : decode cL_isProduct 265 = .ok (.aload_n 1, 1) := by decide +kernel
theorem dL_isProduct_266 : decode cL_isProduct 266 = .ok (.iload 14, 2) := by decide +kernel
theorem dL_isProduct_268 : decode cL_isProduct 268 = .ok (.iconst 4, 1) := by decide +kernel
theorem dL_isProduct_269 : decode cL_isProduct 269 = .ok (.iadd, 1) := by decide +kernel
theorem dL_isProduct_270 : decode cL_isProduct 270 = .ok (.iconst 0, 1) := by decide +kernel
theorem dL_isProduct_271 : decode cL_isProduct 271 = .ok (.iastore, 1) := by decide +kernel
theorem dL_isProduct_272 : decode cL_isProduct 272 = .ok (.aload_n 1, 1) := by decide +kernel
theorem dL_isProduct_273 : decode cL_isProduct 273 = .ok (.iload 14, 2) := by decide +kernel
theorem dL_isProduct_275 : decode cL_isProduct 275 = .ok (.iconst 5, 1) := by decide +kernel
theorem dL_isProduct_276 : decode cL_isProduct 276 = .ok (.iadd, 1) := by decide +kernel
theorem dL_isProduct_277 : decode cL_isProduct 277 = .ok (.iconst 0, 1) := by decide +kernel
theorem dL_isProduct_278 : decode cL_isProduct 278 = .ok (.iastore, 1) := by decide +kernel
theorem dL_isProduct_279 : decode cL_isProduct 279 = .ok (.iconst 0, 1) := by decide +kernel
theorem dL_isProduct_280 : decode cL_isProduct 280 = .ok (.istore 15, 2) := by decide +kernel
theorem dL_isProduct_282 : decode cL_isProduct 282 = .ok (.iload 15, 2) := by decide +kernel
theorem dL_isProduct_284 : decode cL_isProduct 284 = .ok (.bipush 10, 2) := by decide +kernel
theorem dL_isProduct_286 : decode cL_isProduct 286 = .ok (.if_icmp .ge 20, 3) := by decide +kernel
theorem dL_isProduct_289 : decode cL_isProduct 289 = .ok (.aload_n 2, 1) := by decide +kernel
theorem dL_isProduct_290 : decode cL_isProduct 290 = .ok (.bipush 10, 2) := by decide +kernel
theorem dL_isProduct_292 : decode cL_isProduct 292 = .ok (.iload 13, 2) := by decide +kernel
theorem dL_isProduct_294 : decode cL_isProduct 294 = .ok (.imul, 1) := by decide +kernel
theorem dL_isProduct_295 : decode cL_isProduct 295 = .ok (.iload 15, 2) := by decide +kernel
theorem dL_isProduct_297 : decode cL_isProduct 297 = .ok (.iadd, 1) := by decide +kernel
theorem dL_isProduct_298 : decode cL_isProduct 298 = .ok (.iconst 0, 1) := by decide +kernel
theorem dL_isProduct_299 : decode cL_isProduct 299 = .ok (.iastore, 1) := by decide +kernel
theorem dL_isProduct_300 : decode cL_isProduct 300 = .ok (.iinc 15 1, 3) := by decide +kernel
theorem dL_isProduct_303 : decode cL_isProduct 303 = .ok (.goto (-21), 3) := by decide +kernel
theorem dL_isProduct_306 : decode cL_isProduct 306 = .ok (.aload_n 3, 1) := by decide +kernel
theorem dL_isProduct_307 : decode cL_isProduct 307 = .ok (.iconst 4, 1) := by decide +kernel
theorem dL_isProduct_308 : decode cL_isProduct 308 = .ok (.dup2, 1) := by decide +kernel
theorem dL_isProduct_309 : decode cL_isProduct 309 = .ok (.iaload, 1) := by decide +kernel
theorem dL_isProduct_310 : decode cL_isProduct 310 = .ok (.iconst 1, 1) := by decide +kernel
theorem dL_isProduct_311 : decode cL_isProduct 311 = .ok (.iadd, 1) := by decide +kernel
theorem dL_isProduct_312 : decode cL_isProduct 312 = .ok (.iastore, 1) := by decide +kernel
theorem dL_isProduct_313 : decode cL_isProduct 313 = .ok (.aload_n 0, 1) := by decide +kernel
theorem dL_isProduct_314 : decode cL_isProduct 314 = .ok (.iconst 1, 1) := by decide +kernel
theorem dL_isProduct_315 : decode cL_isProduct 315 = .ok (.iload 7, 2) := by decide +kernel
theorem dL_isProduct_317 : decode cL_isProduct 317 = .ok (.iload 8, 2) := by decide +kernel
theorem dL_isProduct_319 : decode cL_isProduct 319 = .ok (.iload 9, 2) := by decide +kernel
theorem dL_isProduct_321 : decode cL_isProduct 321 = .ok (.iconst 0, 1) := by decide +kernel
theorem dL_isProduct_322 : decode cL_isProduct 322 = .ok (.invokestatic 113, 3) := by decide +kernel
theorem dL_isProduct_325 : decode cL_isProduct 325 = .ok (.iload 13, 2) := by decide +kernel
theorem dL_isProduct_327 : decode cL_isProduct 327 = .ok (.if_icmp .ne 7, 3) := by decide +kernel
theorem dL_isProduct_330 : decode cL_isProduct 330 = .ok (.iconst 1, 1) := by decide +kernel
theorem dL_isProduct_331 : decode cL_isProduct 331 = .ok (.goto 4, 3) := by decide +kernel
theorem dL_isProduct_334 : decode cL_isProduct 334 = .ok (.iconst 0, 1) := by decide +kernel
theorem dL_isProduct_335 : decode cL_isProduct 335 = .ok (.ireturn, 1) := by decide +kernel
theorem dL_books_0 : decode cL_books 0 = .ok (.aload_n 0, 1) := by decide +kernel
theorem dL_books_1 : decode cL_books 1 = .ok (.aload_n 1, 1) := by decide +kernel
theorem dL_books_2 : decode cL_books 2 = .ok (.bipush 6, 2) := by decide +kernel
theorem dL_books_4 : decode cL_books 4 = .ok (.iaload, 1) := by decide +kernel
theorem dL_books_5 : decode cL_books 5 = .ok (.sipush 1000, 3) := by decide +kernel
theorem dL_books_8 : decode cL_books 8 = .ok (.iload_n 2, 1) := by decide +kernel
theorem dL_books_9 : decode cL_books 9 = .ok (.imul, 1) := by decide +kernel
theorem dL_books_10 : decode cL_books 10 = .ok (.bipush 100, 2) := by decide +kernel
theorem dL_books_12 : decode cL_books 12 = .ok (.iload_n 3, 1) := by decide +kernel
theorem dL_books_13 : decode cL_books 13 = .ok (.imul, 1) := by decide +kernel
theorem dL_books_14 : decode cL_books 14 = .ok (.iadd, 1) := by decide +kernel
theorem dL_books_15 : decode cL_books 15 = .ok (.iload 4, 2) := by decide +kernel
theorem dL_books_17 : decode cL_books 17 = .ok (.iadd, 1) := by decide +kernel
theorem dL_books_18 : decode cL_books 18 = .ok (.iastore, 1) := by decide +kernel
theorem dL_books_19 : decode cL_books 19 = .ok (.aload_n 0, 1) := by decide +kernel
theorem dL_books_20 : decode cL_books 20 = .ok (.bipush 20, 2) := by decide +kernel
theorem dL_books_22 : decode cL_books 22 = .ok (.aload_n 1, 1) := by decide +kernel
theorem dL_books_23 : decode cL_books 23 = .ok (.bipush 6, 2) := by decide +kernel
theorem dL_books_25 : decode cL_books 25 = .ok (.iaload, 1) := by decide +kernel
theorem dL_books_26 : decode cL_books 26 = .ok (.iadd, 1) := by decide +kernel
theorem dL_books_27 : decode cL_books 27 = .ok (.iload 5, 2) := by decide +kernel
theorem dL_books_29 : decode cL_books 29 = .ok (.iastore, 1) := by decide +kernel
theorem dL_books_30 : decode cL_books 30 = .ok (.aload_n 1, 1) := by decide +kernel
theorem dL_books_31 : decode cL_books 31 = .ok (.bipush 6, 2) := by decide +kernel
theorem dL_books_33 : decode cL_books 33 = .ok (.dup2, 1) := by decide +kernel
theorem dL_books_34 : decode cL_books 34 = .ok (.iaload, 1) := by decide +kernel
theorem dL_books_35 : decode cL_books 35 = .ok (.iconst 1, 1) := by decide +kernel
theorem dL_books_36 : decode cL_books 36 = .ok (.iadd, 1) := by decide +kernel
theorem dL_books_37 : decode cL_books 37 = .ok (.iastore, 1) := by decide +kernel
theorem dL_books_38 : decode cL_books 38 = .ok (.return_, 1) := by decide +kernel
set_option maxRecDepth 20000 in
theorem ggL_isAsked_L_does_wsL_does_r1 : GoodIn wsL_isAsked wsL_does_r1 := goodIn_r _ [5, 6, 7, 8, 9, 3, 10, 11, 12, 13, 14, 15, 16, 17, 18, 19, 20, 21, 22, 23, 24, 25, 26, 27] (by decide +kernel) (by decide +kernel)
set_option maxRecDepth 20000 in
theorem ggL_isAsked_L_does_wsL_does_r2 : GoodIn wsL_isAsked wsL_does_r2 := goodIn_r _ [28, 29, 30, 31, 32, 33, 34, 35, 36, 37, 38, 39, 40, 41, 42, 43, 44, 45, 46, 47, 48, 49, 50, 51] (by decide +kernel) (by decide +kernel)
set_option maxRecDepth 20000 in
theorem ggL_isAsked_L_does_wsL_does_r3 : GoodIn wsL_isAsked wsL_does_r3 := goodIn_r _ [52, 53, 54, 55, 56, 57, 58, 59, 60, 61, 62, 63, 64, 65, 66, 67, 68, 69, 70, 71, 72, 73, 74, 75] (by decide +kernel) (by decide +kernel)
set_option maxRecDepth 20000 in
theorem ggL_isAsked_L_does_wsL_does_r4 : GoodIn wsL_isAsked wsL_does_r4 := goodIn_r _ [76, 77, 78, 79, 80, 81, 82, 83, 84, 85, 86, 87, 88, 89, 90, 91, 92, 93, 94, 95, 96, 97, 98, 99] (by decide +kernel) (by decide +kernel)
set_option maxRecDepth 20000 in
theorem ggL_isAsked_L_does_wsL_does_r5 : GoodIn wsL_isAsked wsL_does_r5 := goodIn_r _ [100, 101, 102, 103, 104, 105, 106, 107, 108, 109, 110, 111, 112, 113, 114, 115, 116, 117, 118, 119, 120, 121, 122, 123] (by decide +kernel) (by decide +kernel)
set_option maxRecDepth 20000 in
theorem ggL_isAsked_L_does_wsL_does_r6 : GoodIn wsL_isAsked wsL_does_r6 := goodIn_r _ [124, 125, 126, 127, 128, 129, 130, 131, 132, 133, 134, 135, 136, 137, 138, 139, 140, 141, 142, 143, 144, 145, 146, 147] (by decide +kernel) (by decide +kernel)
set_option maxRecDepth 20000 in
theorem ggL_isAsked_L_does_wsL_does_r7 : GoodIn wsL_isAsked wsL_does_r7 := goodIn_r _ [148, 149, 150, 151, 152, 153, 154, 155, 156, 157, 158, 159, 160, 161, 162, 163, 164, 165, 166, 167, 168, 169, 170, 171] (by decide +kernel) (by decide +kernel)
set_option maxRecDepth 20000 in
theorem ggL_isAsked_L_does_wsL_does_r8 : GoodIn wsL_isAsked wsL_does_r8 := goodIn_r _ [172, 173, 174, 175, 176, 177, 178, 179, 180, 181, 182, 183, 184, 185, 186, 187, 188, 189, 190, 191, 192, 193, 194, 195] (by decide +kernel) (by decide +kernel)
set_option maxRecDepth 20000 in
theorem ggL_isAsked_L_does_wsL_does_r9 : GoodIn wsL_isAsked wsL_does_r9 := goodIn_r _ [196, 197, 198, 199, 200, 201, 202, 203, 204, 205, 206, 207, 208, 209, 210, 211, 212, 213, 214, 215, 216, 217, 218, 219] (by decide +kernel) (by decide +kernel)
set_option maxRecDepth 20000 in
theorem ggL_isAsked_L_does_wsL_does_r10 : GoodIn wsL_isAsked wsL_does_r10 := goodIn_r _ [220, 221, 222, 223, 224, 225, 226, 227, 228, 229, 230, 231, 232, 233, 234, 235, 236, 237, 238, 239, 240, 241] (by decide +kernel) (by decide +kernel)
set_option maxRecDepth 20000 in
theorem ggL_isAsked_L_does_wsX50 : GoodIn wsL_isAsked wsX50 := goodIn_r _ [258, 259, 260, 261, 262, 263, 264, 265, 266, 267, 268, 269, 270, 271] (by decide +kernel) (by decide +kernel)
set_option maxRecDepth 20000 in
theorem ggL_isAsked_L_does_wsX20 : GoodIn wsL_isAsked wsX20 := goodIn_r _ [272, 273, 274, 275, 276, 277, 278] (by decide +kernel) (by decide +kernel)
set_option maxRecDepth 20000 in
theorem ggL_isAsked_L_does_wsX00 : GoodIn wsL_isAsked wsX00 := goodIn_r _ [279, 280, 281, 282, 283] (by decide +kernel) (by decide +kernel)
set_option maxRecDepth 20000 in
theorem ggL_isAsked_L_does_wsX10 : GoodIn wsL_isAsked wsX10 := goodIn_r _ [284, 285, 286, 287, 288, 289] (by decide +kernel) (by decide +kernel)
set_option maxRecDepth 20000 in
theorem ggL_isAsked_L_does_wsX30 : GoodIn wsL_isAsked wsX30 := goodIn_r _ [290, 291] (by decide +kernel) (by decide +kernel)
set_option maxRecDepth 100000 in
theorem ggL_isAsked_L_does_code : GoodIn wsL_isAsked [Cond.codeWith yL_does cL_does 7 (some .int) [(0, 108, 109, 45), (0, 108, 114, 47), (0, 108, 119, 49)]] := goodIn_sub (fun w hw => by rw [List.mem_singleton.mp hw]; exact List.mem_of_getElem? (i := 4) (by rfl)) (by rfl)
set_option maxRecDepth 20000 in
theorem ggL_isAsked_L_does : GoodIn wsL_isAsked wsL_does := goodIn_ca (goodIn_ca (goodIn_ca (goodIn_app ggL_isAsked_L_does_code (goodIn_app (goodIn_app (goodIn_app (goodIn_app (goodIn_app (goodIn_app ggL_isAsked_L_does_wsL_does_r1 (goodIn_app ggL_isAsked_L_does_wsL_does_r2 (goodIn_app ggL_isAsked_L_does_wsL_does_r3 (goodIn_app ggL_isAsked_L_does_wsL_does_r4 (goodIn_app ggL_isAsked_L_does_wsL_does_r5 (goodIn_app ggL_isAsked_L_does_wsL_does_r6 (goodIn_app ggL_isAsked_L_does_wsL_does_r7 (goodIn_app ggL_isAsked_L_does_wsL_does_r8 (goodIn_app ggL_isAsked_L_does_wsL_does_r9 ggL_isAsked_L_does_wsL_does_r10))))))))) ggL_isAsked_L_does_wsX50) ggL_isAsked_L_does_wsX20) ggL_isAsked_L_does_wsX00) ggL_isAsked_L_does_wsX10) ggL_isAsked_L_does_wsX30)) (goodIn_sub (fun _ h => List.mem_cons_of_mem _ (List.mem_append_left _ (List.mem_append_left _ (List.mem_append_right _ h)))) (by decide +kernel))) (goodIn_sub (fun _ h => List.mem_cons_of_mem _ (List.mem_append_left _ (List.mem_append_right _ h))) (by decide +kernel))) (goodIn_sub (fun _ h => List.mem_cons_of_mem _ (List.mem_append_right _ h)) (by decide +kernel))
set_option maxRecDepth 20000 in
theorem gL_isAsked_L_does : GoodIn wsL_isAsked (va_wsS RL 113 yL_does wsL_does) := goodIn_app (goodIn_of _ (by decide +kernel)) ggL_isAsked_L_does
set_option maxRecDepth 20000 in
theorem ggL_isAsked_L_authorised : GoodIn wsL_isAsked wsL_authorised := goodIn_r _ [244] (by decide +kernel) (by decide +kernel)
set_option maxRecDepth 20000 in
theorem gL_isAsked_L_authorised : GoodIn wsL_isAsked (va_wsS RL 106 yL_authorised wsL_authorised) := goodIn_app (goodIn_of _ (by decide +kernel)) ggL_isAsked_L_authorised
set_option maxRecDepth 20000 in
theorem ggL_isAsked_L_booked : GoodIn wsL_isAsked wsL_booked := goodIn_r _ [247] (by decide +kernel) (by decide +kernel)
set_option maxRecDepth 20000 in
theorem gL_isAsked_L_booked : GoodIn wsL_isAsked (va_wsS RL 103 yL_booked wsL_booked) := goodIn_app (goodIn_of _ (by decide +kernel)) ggL_isAsked_L_booked
set_option maxRecDepth 20000 in
theorem ggL_isAsked_L_guarded : GoodIn wsL_isAsked wsL_guarded := goodIn_r _ [250] (by decide +kernel) (by decide +kernel)
set_option maxRecDepth 20000 in
theorem gL_isAsked_L_guarded : GoodIn wsL_isAsked (va_wsS RL 109 yL_guarded wsL_guarded) := goodIn_app (goodIn_of _ (by decide +kernel)) ggL_isAsked_L_guarded
set_option maxRecDepth 20000 in
theorem ggL_isAsked_X5_bid : GoodIn wsL_isAsked wsX5_bid := goodIn_ca (goodIn_r _ [254, 30, 31, 39, 40, 14, 41, 18, 19, 20, 135, 136, 137, 138, 139, 140, 141, 142, 143, 64, 144, 145, 146, 147, 148, 149, 150, 151, 152, 153, 154, 155, 156, 157, 158, 159, 160, 161, 37, 162, 163, 54, 55, 164, 165, 166, 167, 168, 169, 170, 171, 172, 173, 174, 175, 176, 177, 178, 110, 111, 112, 113, 25, 90, 91, 92, 93, 82, 94, 95, 96, 97, 98, 99, 85, 100, 101, 102, 103, 104, 105, 179, 180, 181, 182, 183, 184, 185, 186, 187, 188, 189, 190, 191, 192, 193, 194, 195, 196, 258, 259, 260, 261, 262, 263, 264, 265, 266, 267, 268, 269, 270, 271, 284, 285, 286, 287, 288, 289, 290, 291, 272, 273, 274, 275, 276, 277, 278, 279, 280, 281, 282, 283] (by decide +kernel) (by decide +kernel)) (goodIn_sub (fun _ h => List.mem_cons_of_mem _ (List.mem_append_left _ (List.mem_append_right _ h))) (by decide +kernel))
set_option maxRecDepth 20000 in
theorem gL_isAsked_X5_bid : GoodIn wsL_isAsked (wsV RL 60 RX5 yX5_bid wsX5_bid) := goodIn_app (goodIn_of _ (by decide +kernel)) ggL_isAsked_X5_bid
set_option maxRecDepth 20000 in
theorem ggL_isAsked_L_books : GoodIn wsL_isAsked wsL_books := goodIn_r _ [257] (by decide +kernel) (by decide +kernel)
set_option maxRecDepth 20000 in
theorem gL_isAsked_L_books : GoodIn wsL_isAsked (va_wsS RL 117 yL_books wsL_books) := goodIn_app (goodIn_of _ (by decide +kernel)) ggL_isAsked_L_books
