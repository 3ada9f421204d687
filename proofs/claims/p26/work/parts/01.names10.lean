set_option maxRecDepth 20000 in
theorem ggL_areProducts_L_asks : GoodIn wsL_areProducts wsL_asks := goodIn_ca (goodIn_ca (goodIn_r _ [4, 5, 6, 7, 8, 9, 10, 11, 12, 13, 14, 15, 16, 17, 18, 19, 20, 21, 22, 23, 24, 25, 26, 27, 28, 29, 30, 31, 32, 33, 34, 35, 36, 37, 38, 39, 40, 41, 42, 43, 44, 45, 46, 47, 48, 49, 50, 51, 52, 53, 54, 55, 56, 57, 58, 59, 60, 61, 62, 63, 64, 65, 66, 67, 68, 69, 70, 71, 72, 73, 74, 75, 76, 77, 78, 79, 80, 81, 82, 83, 84, 85, 86, 87, 88, 89, 90, 91, 92, 93, 94, 95, 96, 97, 98, 99, 100, 101, 102, 103, 104, 105, 106, 107, 108, 109, 110, 111, 112, 113, 114, 115, 116, 117, 118, 119, 120, 121, 122, 123, 124, 125, 126, 127, 128, 129, 130, 131, 132, 133, 134, 135, 136, 137, 138, 139, 140, 141, 142, 143, 144, 145, 146, 147, 148, 149, 150, 151, 152, 153, 154, 155, 156, 157, 158, 159, 160, 161, 162, 163, 164, 165, 166, 167, 168, 169, 170, 171, 172, 173, 174, 175, 176, 177, 178, 179, 180, 181, 182, 183, 184, 185, 186, 187, 188, 189, 190, 191, 192, 193, 194, 195, 196, 197, 198, 199, 200, 201, 202, 203, 204, 205, 206, 207, 208, 209, 210, 211, 212] (by decide +kernel) (by decide +kernel)) (goodIn_sub (fun _ h => List.mem_cons_of_mem _ (List.mem_append_left _ (List.mem_append_right _ h))) (by decide +kernel))) (goodIn_sub (fun _ h => List.mem_cons_of_mem _ (List.mem_append_right _ h)) (by decide +kernel))
set_option maxRecDepth 20000 in
theorem gL_areProducts_L_asks : GoodIn wsL_areProducts (va_wsS RL 79 yL_asks wsL_asks) := goodIn_app (goodIn_of _ (by decide +kernel)) ggL_areProducts_L_asks
set_option maxRecDepth 20000 in
theorem ggL_areProducts_X5_expected : GoodIn wsL_areProducts wsX5_expected := goodIn_ca (goodIn_r _ [159, 12, 13, 160, 161, 162, 10, 163, 62, 198, 199, 200, 201, 202, 203, 204, 179, 180, 181, 182, 183, 184, 185, 186, 187, 188, 189, 190, 191, 192] (by decide +kernel) (by decide +kernel)) (goodIn_sub (fun _ h => List.mem_cons_of_mem _ (List.mem_append_left _ (List.mem_append_right _ h))) (by decide +kernel))
set_option maxRecDepth 20000 in
theorem gL_areProducts_X5_expected : GoodIn wsL_areProducts (wsV RL 66 RX5 yX5_expected wsX5_expected) := goodIn_app (goodIn_of _ (by decide +kernel)) ggL_areProducts_X5_expected
set_option maxRecDepth 20000 in
theorem ggL_areProducts_X5_asked : GoodIn wsL_areProducts wsX5_asked := goodIn_ca (goodIn_r _ [167, 12, 13, 160, 161, 162, 10, 163, 62, 198, 199, 200, 201, 202, 203, 204, 179, 180, 181, 182, 183, 184, 185, 186, 187, 188, 189, 190, 191, 192] (by decide +kernel) (by decide +kernel)) (goodIn_sub (fun _ h => List.mem_cons_of_mem _ (List.mem_append_left _ (List.mem_append_right _ h))) (by decide +kernel))
set_option maxRecDepth 20000 in
theorem gL_areProducts_X5_asked : GoodIn wsL_areProducts (wsV RL 69 RX5 yX5_asked wsX5_asked) := goodIn_app (goodIn_of _ (by decide +kernel)) ggL_areProducts_X5_asked
set_option maxRecDepth 20000 in
theorem ggL_areProducts_X5_average : GoodIn wsL_areProducts wsX5_average := goodIn_ca (goodIn_r _ [178, 12, 13, 63, 160, 161, 162, 10, 163, 62, 179, 180, 181, 182, 183, 184, 185, 186, 187, 188, 189, 190, 191, 192, 198, 199, 200, 201, 202, 203, 204] (by decide +kernel) (by decide +kernel)) (goodIn_sub (fun _ h => List.mem_cons_of_mem _ (List.mem_append_left _ (List.mem_append_right _ h))) (by decide +kernel))
set_option maxRecDepth 20000 in
theorem gL_areProducts_X5_average : GoodIn wsL_areProducts (wsV RL 75 RX5 yX5_average wsX5_average) := goodIn_app (goodIn_of _ (by decide +kernel)) ggL_areProducts_X5_average
set_option maxRecDepth 20000 in
theorem ggL_areProducts_X5_refused : GoodIn wsL_areProducts wsX5_refused := goodIn_ca (goodIn_r _ [171, 56, 57, 172, 173, 174, 179, 180, 181, 182, 183, 184, 185, 186, 187, 188, 189, 190, 191, 192] (by decide +kernel) (by decide +kernel)) (goodIn_sub (fun _ h => List.mem_cons_of_mem _ (List.mem_append_right _ h)) (by decide +kernel))
set_option maxRecDepth 20000 in
theorem gL_areProducts_X5_refused : GoodIn wsL_areProducts (wsV RL 72 RX5 yX5_refused wsX5_refused) := goodIn_app (goodIn_of _ (by decide +kernel)) ggL_areProducts_X5_refused
theorem dL_areProducts_0 : decode cL_areProducts 0 = .ok (.aload_n 0, 1) := by decide +kernel
theorem dL_areProducts_1 : decode cL_areProducts 1 = .ok (.iconst 5, 1) := by decide +kernel
theorem dL_areProducts_2 : decode cL_areProducts 2 = .ok (.aload_n 2, 1) := by decide +kernel
theorem dL_areProducts_3 : decode cL_areProducts 3 = .ok (.iconst 4, 1) := by decide +kernel
theorem dL_areProducts_4 : decode cL_areProducts 4 = .ok (.iaload, 1) := by decide +kernel
theorem dL_areProducts_5 : decode cL_areProducts 5 = .ok (.iconst 0, 1) := by decide +kernel
theorem dL_areProducts_6 : decode cL_areProducts 6 = .ok (.iconst 0, 1) := by decide +kernel
theorem dL_areProducts_7 : decode cL_areProducts 7 = .ok (.invokestatic 79, 3) := by decide +kernel
theorem dL_areProducts_10 : decode cL_areProducts 10 = .ok (.bipush (-30), 2) := by decide +kernel
theorem dL_areProducts_12 : decode cL_areProducts 12 = .ok (.if_icmp .ne 66, 3) := by decide +kernel
theorem dL_areProducts_15 : decode cL_areProducts 15 = .ok (.aload_n 0, 1) := by decide +kernel
theorem dL_areProducts_16 : decode cL_areProducts 16 = .ok (.bipush 6, 2) := by decide +kernel
theorem dL_areProducts_18 : decode cL_areProducts 18 = .ok (.iconst (-1), 1) := by decide +kernel
theorem dL_areProducts_19 : decode cL_areProducts 19 = .ok (.iconst 0, 1) := by decide +kernel
theorem dL_areProducts_20 : decode cL_areProducts 20 = .ok (.iconst 0, 1) := by decide +kernel
theorem dL_areProducts_21 : decode cL_areProducts 21 = .ok (.invokestatic 79, 3) := by decide +kernel
theorem dL_areProducts_24 : decode cL_areProducts 24 = .ok (.bipush (-30), 2) := by decide +kernel
theorem dL_areProducts_26 : decode cL_areProducts 26 = .ok (.if_icmp .ne 52, 3) := by decide +kernel
theorem dL_areProducts_29 : decode cL_areProducts 29 = .ok (.aload_n 0, 1) := by decide +kernel
theorem dL_areProducts_30 : decode cL_areProducts 30 = .ok (.bipush 8, 2) := by decide +kernel
theorem dL_areProducts_32 : decode cL_areProducts 32 = .ok (.aload_n 2, 1) := by decide +kernel
theorem dL_areProducts_33 : decode cL_areProducts 33 = .ok (.iconst 4, 1) := by decide +kernel
theorem dL_areProducts_34 : decode cL_areProducts 34 = .ok (.iaload, 1) := by decide +kernel
theorem dL_areProducts_35 : decode cL_areProducts 35 = .ok (.iconst 0, 1) := by decide +kernel
theorem dL_areProducts_36 : decode cL_areProducts 36 = .ok (.iconst 0, 1) := by decide +kernel
theorem dL_areProducts_37 : decode cL_areProducts 37 = .ok (.invokestatic 79, 3) := by decide +kernel
theorem dL_areProducts_40 : decode cL_areProducts 40 = .ok (.bipush (-30), 2) := by decide +kernel
theorem dL_areProducts_42 : decode cL_areProducts 42 = .ok (.if_icmp .ne 36, 3) := by decide +kernel
theorem dL_areProducts_45 : decode cL_areProducts 45 = .ok (.aload_n 0, 1) := by decide +kernel
theorem dL_areProducts_46 : decode cL_areProducts 46 = .ok (.bipush 7, 2) := by decide +kernel
theorem dL_areProducts_48 : decode cL_areProducts 48 = .ok (.iconst 0, 1) := by decide +kernel
theorem dL_areProducts_49 : decode cL_areProducts 49 = .ok (.iconst 0, 1) := by decide +kernel
theorem dL_areProducts_50 : decode cL_areProducts 50 = .ok (.iconst 0, 1) := by decide +kernel
theorem dL_areProducts_51 : decode cL_areProducts 51 = .ok (.invokestatic 79, 3) := by decide +kernel
theorem dL_areProducts_54 : decode cL_areProducts 54 = .ok (.bipush (-20), 2) := by decide +kernel
theorem dL_areProducts_56 : decode cL_areProducts 56 = .ok (.if_icmp .ne 22, 3) := by decide +kernel
theorem dL_areProducts_59 : decode cL_areProducts 59 = .ok (.aload_n 0, 1) := by decide +kernel
theorem dL_areProducts_60 : decode cL_areProducts 60 = .ok (.bipush 7, 2) := by decide +kernel
theorem dL_areProducts_62 : decode cL_areProducts 62 = .ok (.bipush (-4), 2) := by decide +kernel
theorem dL_areProducts_64 : decode cL_areProducts 64 = .ok (.iconst 0, 1) := by decide +kernel
theorem dL_areProducts_65 : decode cL_areProducts 65 = .ok (.iconst 0, 1) := by decide +kernel
theorem dL_areProducts_66 : decode cL_areProducts 66 = .ok (.invokestatic 79, 3) := by decide +kernel
theorem dL_areProducts_69 : decode cL_areProducts 69 = .ok (.bipush (-20), 2) := by decide +kernel
theorem dL_areProducts_71 : decode cL_areProducts 71 = .ok (.if_icmp .ne 7, 3) := by decide +kernel
theorem dL_areProducts_74 : decode cL_areProducts 74 = .ok (.iconst 1, 1) := by decide +kernel
theorem dL_areProducts_75 : decode cL_areProducts 75 = .ok (.goto 4, 3) := by decide +kernel
theorem dL_areProducts_78 : decode cL_areProducts 78 = .ok (.iconst 0, 1) := by decide +kernel
theorem dL_areProducts_79 : decode cL_areProducts 79 = .ok (.istore_n 3, 1) := by decide +kernel
theorem dL_areProducts_80 : decode cL_areProducts 80 = .ok (.iconst 0, 1) := by decide +kernel
theorem dL_areProducts_81 : decode cL_areProducts 81 = .ok (.istore 4, 2) := by decide +kernel
theorem dL_areProducts_83 : decode cL_areProducts 83 = .ok (.iload 4, 2) := by decide +kernel
theorem dL_areProducts_85 : decode cL_areProducts 85 = .ok (.aload_n 2, 1) := by decide +kernel
theorem dL_areProducts_86 : decode cL_areProducts 86 = .ok (.iconst 4, 1) := by decide +kernel
theorem dL_areProducts_87 : decode cL_areProducts 87 = .ok (.iaload, 1) := by decide +kernel
theorem dL_areProducts_88 : decode cL_areProducts 88 = .ok (.if_icmp .ge 94, 3) := by decide +kernel
theorem dL_areProducts_91 : decode cL_areProducts 91 = .ok (.iload_n 3, 1) := by decide +kernel
theorem dL_areProducts_92 : decode cL_areProducts 92 = .ok (.ifCond .eq 90, 3) := by decide +kernel
theorem dL_areProducts_95 : decode cL_areProducts 95 = .ok (.aload_n 2, 1) := by decide +kernel
theorem dL_areProducts_96 : decode cL_areProducts 96 = .ok (.iconst 5, 1) := by decide +kernel
theorem dL_areProducts_97 : decode cL_areProducts 97 = .ok (.iaload, 1) := by decide +kernel
theorem dL_areProducts_98 : decode cL_areProducts 98 = .ok (.ifCond .ne 7, 3) := by decide +kernel
theorem dL_areProducts_101 : decode cL_areProducts 101 = .ok (.fconst 0, 1) := by decide +kernel
theorem dL_areProducts_102 : decode cL_areProducts 102 = .ok (.goto 18, 3) := by decide +kernel
theorem dL_areProducts_105 : decode cL_areProducts 105 = .ok (.aload_n 1, 1) := by decide +kernel
theorem dL_areProducts_106 : decode cL_areProducts 106 = .ok (.bipush 6, 2) := by decide +kernel
theorem dL_areProducts_108 : decode cL_areProducts 108 = .ok (.iload 4, 2) := by decide +kernel
theorem dL_areProducts_110 : decode cL_areProducts 110 = .ok (.imul, 1) := by decide +kernel
theorem dL_areProducts_111 : decode cL_areProducts 111 = .ok (.iconst 5, 1) := by decide +kernel
theorem dL_areProducts_112 : decode cL_areProducts 112 = .ok (.iadd, 1) := by decide +kernel
theorem dL_areProducts_113 : decode cL_areProducts 113 = .ok (.iaload, 1) := by decide +kernel
theorem dL_areProducts_114 : decode cL_areProducts 114 = .ok (.i2f, 1) := by decide +kernel
theorem dL_areProducts_115 : decode cL_areProducts 115 = .ok (.aload_n 2, 1) := by decide +kernel
theorem dL_areProducts_116 : decode cL_areProducts 116 = .ok (.iconst 5, 1) := by decide +kernel
theorem dL_areProducts_117 : decode cL_areProducts 117 = .ok (.iaload, 1) := by decide +kernel
theorem dL_areProducts_118 : decode cL_areProducts 118 = .ok (.i2f, 1) := by decide +kernel
theorem dL_areProducts_119 : decode cL_areProducts 119 = .ok (.fdiv, 1) := by decide +kernel
theorem dL_areProducts_120 : decode cL_areProducts 120 = .ok (.fstore 5, 2) := by decide +kernel
theorem dL_areProducts_122 : decode cL_areProducts 122 = .ok (.aload_n 0, 1) := by decide +kernel
theorem dL_areProducts_123 : decode cL_areProducts 123 = .ok (.iload 4, 2) := by decide +kernel
theorem dL_areProducts_125 : decode cL_areProducts 125 = .ok (.invokevirtual 66, 3) := by decide +kernel
theorem dL_areProducts_128 : decode cL_areProducts 128 = .ok (.aload_n 1, 1) := by decide +kernel
theorem dL_areProducts_129 : decode cL_areProducts 129 = .ok (.bipush 6, 2) := by decide +kernel
theorem dL_areProducts_131 : decode cL_areProducts 131 = .ok (.iload 4, 2) := by decide +kernel
theorem dL_areProducts_133 : decode cL_areProducts 133 = .ok (.imul, 1) := by decide +kernel
theorem dL_areProducts_134 : decode cL_areProducts 134 = .ok (.iconst 3, 1) := by decide +kernel
theorem dL_areProducts_135 : decode cL_areProducts 135 = .ok (.iadd, 1) := by decide +kernel
theorem dL_areProducts_136 : decode cL_areProducts 136 = .ok (.iaload, 1) := by decide +kernel
theorem dL_areProducts_137 : decode cL_areProducts 137 = .ok (.if_icmp .ne 37, 3) := by decide +kernel
theorem dL_areProducts_140 : decode cL_areProducts 140 = .ok (.aload_n 0, 1) := by decide +kernel
theorem dL_areProducts_141 : decode cL_areProducts 141 = .ok (.iload 4, 2) := by decide +kernel
theorem dL_areProducts_143 : decode cL_areProducts 143 = .ok (.invokevirtual 69, 3) := by decide +kernel
theorem dL_areProducts_146 : decode cL_areProducts 146 = .ok (.aload_n 1, 1) := by decide +kernel
theorem dL_areProducts_147 : decode cL_areProducts 147 = .ok (.bipush 6, 2) := by decide +kernel
theorem dL_areProducts_149 : decode cL_areProducts 149 = .ok (.iload 4, 2) := by decide +kernel
theorem dL_areProducts_151 : decode cL_areProducts 151 = .ok (.imul, 1) := by decide +kernel
theorem dL_areProducts_152 : decode cL_areProducts 152 = .ok (.iconst 4, 1) := by decide +kernel
theorem dL_areProducts_153 : decode cL_areProducts 153 = .ok (.iadd, 1) := by decide +kernel
theorem dL_areProducts_154 : decode cL_areProducts 154 = .ok (.iaload, 1) := by decide +kernel
theorem dL_areProducts_155 : decode cL_areProducts 155 = .ok (.if_icmp .ne 19, 3) := by decide +kernel
theorem dL_areProducts_158 : decode cL_areProducts 158 = .ok (.aload_n 0, 1) := by decide +kernel
theorem dL_areProducts_159 : decode cL_areProducts 159 = .ok (.iload 4, 2) := by decide +kernel
theorem dL_areProducts_161 : decode cL_areProducts 161 = .ok (.invokevirtual 75, 3) := by decide +kernel
theorem dL_areProducts_164 : decode cL_areProducts 164 = .ok (.fload 5, 2) := by decide +kernel
theorem dL_areProducts_166 : decode cL_areProducts 166 = .ok (.fcmp .l, 1) := by decide +kernel
theorem dL_areProducts_167 : decode cL_areProducts 167 = .ok (.ifCond .ne 7, 3) := by decide +kernel
theorem dL_areProducts_170 : decode cL_areProducts 170 = .ok (.iconst 1, 1) := by decide +kernel
theorem dL_areProducts_171 : decode cL_areProducts 171 = .ok (.goto 4, 3) := by decide +kernel
theorem dL_areProducts_174 : decode cL_areProducts 174 = .ok (.iconst 0, 1) := by decide +kernel
theorem dL_areProducts_175 : decode cL_areProducts 175 = .ok (.istore_n 3, 1) := by decide +kernel
theorem dL_areProducts_176 : decode cL_areProducts 176 = .ok (.iinc 4 1, 3) := by decide +kernel
theorem dL_areProducts_179 : decode cL_areProducts 179 = .ok (.goto (-96), 3) := by decide +kernel
theorem dL_areProducts_182 : decode cL_areProducts 182 = .ok (.iconst 0, 1) := by decide +kernel
theorem dL_areProducts_183 : decode cL_areProducts 183 = .ok (.istore 4, 2) := by decide +kernel
theorem dL_areProducts_185 : decode cL_areProducts 185 = .ok (.iload 4, 2) := by decide +kernel
theorem dL_areProducts_187 : decode cL_areProducts 187 = .ok (.iconst 3, 1) := by decide +kernel
theorem dL_areProducts_188 : decode cL_areProducts 188 = .ok (.if_icmp .ge 37, 3) := by decide +kernel
theorem dL_areProducts_191 : decode cL_areProducts 191 = .ok (.iload_n 3, 1) := by decide +kernel
theorem dL_areProducts_192 : decode cL_areProducts 192 = .ok (.ifCond .eq 33, 3) := by decide +kernel
theorem dL_areProducts_195 : decode cL_areProducts 195 = .ok (.aload_n 0, 1) := by decide +kernel
theorem dL_areProducts_196 : decode cL_areProducts 196 = .ok (.iconst (-1), 1) := by decide +kernel
theorem dL_areProducts_197 : decode cL_areProducts 197 = .ok (.iload 4, 2) := by decide +kernel
theorem dL_areProducts_199 : decode cL_areProducts 199 = .ok (.isub, 1) := by decide +kernel
theorem dL_areProducts_200 : decode cL_areProducts 200 = .ok (.invokevirtual 72, 3) := by decide +kernel
theorem dL_areProducts_203 : decode cL_areProducts 203 = .ok (.aload_n 2, 1) := by decide +kernel
theorem dL_areProducts_204 : decode cL_areProducts 204 = .ok (.bipush 7, 2) := by decide +kernel
theorem dL_areProducts_206 : decode cL_areProducts 206 = .ok (.iload 4, 2) := by decide +kernel
theorem dL_areProducts_208 : decode cL_areProducts 208 = .ok (.iadd, 1) := by decide +kernel
theorem dL_areProducts_209 : decode cL_areProducts 209 = .ok (.iaload, 1) := by decide +kernel
theorem dL_areProducts_210 : decode cL_areProducts 210 = .ok (.if_icmp .ne 7, 3) := by decide +kernel
theorem dL_areProducts_213 : decode cL_areProducts 213 = .ok (.iconst 1, 1) := by decide +kernel
theorem dL_areProducts_214 : decode cL_areProducts 214 = .ok (.goto 4, 3) := by decide +kernel
theorem dL_areProducts_217 : decode cL_areProducts 217 = .ok (.iconst 0, 1) := by decide +kernel
theorem dL_areProducts_218 : decode cL_areProducts 218 = .ok (.istore_n 3, 1) := by decide +kernel
theorem dL_areProducts_219 : decode cL_areProducts 219 = .ok (.iinc 4 1, 3) := by decide +kernel
theorem dL_areProducts_222 : decode cL_areProducts 222 = .ok (.goto (-37), 3) := by decide +kernel
theorem dL_areProducts_225 : decode cL_areProducts 225 = .ok (.iload_n 3, 1) := by decide +kernel
theorem dL_areProducts_226 : decode cL_areProducts 226 = .ok (.ireturn, 1) := by decide +kernel
set_option maxRecDepth 20000 in
theorem ggL_isProduct_X5_products : GoodIn wsL_isProduct wsX5_products := goodIn_r _ [5, 6, 246, 247, 248, 249, 250, 251, 252, 253, 254, 255, 256, 257, 258, 259] (by decide +kernel) (by decide +kernel)
set_option maxRecDepth 20000 in
theorem gL_isProduct_X5_products : GoodIn wsL_isProduct (wsV RL 100 RX5 yX5_products wsX5_products) := goodIn_app (goodIn_of _ (by decide +kernel)) ggL_isProduct_X5_products
