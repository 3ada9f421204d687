theorem dL_areProducts_86 : decode cL_areProducts 86 = .ok (.iconst 4, 1) := by decide +kernel
theorem dL_areProducts_87 : decode cL_areProducts 87 = .ok (.iaload, 1) := by decide +kernel
theorem dL_areProducts_88 : decode cL_areProducts 88 = .ok (.if_icmp .ge 94, 3) := by decide +kernel
theorem dL_areProducts_91 : decode cL_areProducts 91 = .ok (.iload_n 3, 1) := by decide +kernel
theorem dL_areProducts_92 : decode cL_areProducts 92 = .ok (.ifCond .eq 90, 3) := by decide +kernel
theorem dL_areProducts_95 : decode cL_areProducts 95 = .ok (.aload_n 2, 1) := by decide +kernel
theorem dL_areProducts_96 : decode cL_areProducts 96 = .ok (.iconst 5, 1) := by decide +kernel
theorem dL_areProducts_97 : decode cL_areProducts 97 = .ok (.iaload, 1) := by decide +kernel
theorem dL_areProducts_98 : decode cL_areProducts 98 = .ok (.ifCond .ne 7, 3) := by decide +kernel
theorem dL_areProducts_101 : decode cL_areProducts 101 = .ok (.fconst 0, 1) := by decide +kernel
theorem dL_areProducts_102 : decode cL_areProducts 102 = .ok (.goto 18, 3) := by decide +kernel
theorem dL_areProducts_105 : decode cL_areProducts 105 = .ok (.aload_n 1, 1) := by decide +kernel
theorem dL_areProducts_106 : decode cL_areProducts 106 = .ok (.bipush 6, 2) := by decide +kernel
theorem dL_areProducts_108 : decode cL_areProducts 108 = .ok (.iload 4, 2) := by decide +kernel
theorem dL_areProducts_110 : decode cL_areProducts 110 = .ok (.imul, 1) := by decide +kernel
theorem dL_areProducts_111 : decode cL_areProducts 111 = .ok (.iconst 5, 1) := by decide +kernel
theorem dL_areProducts_112 : decode cL_areProducts 112 = .ok (.iadd, 1) := by decide +kernel
theorem dL_areProducts_113 : decode cL_areProducts 113 = .ok (.iaload, 1) := by decide +kernel
theorem dL_areProducts_114 : decode cL_areProducts 114 = .ok (.i2f, 1) := by decide +kernel
theorem dL_areProducts_115 : decode cL_areProducts 115 = .ok (.aload_n 2, 1) := by decide +kernel
theorem dL_areProducts_116 : decode cL_areProducts 116 = .ok (.iconst 5, 1) := by decide +kernel
theorem dL_areProducts_117 : decode cL_areProducts 117 = .ok (.iaload, 1) := by decide +kernel
theorem dL_areProducts_118 : decode cL_areProducts 118 = .ok (.i2f, 1) := by decide +kernel
theorem dL_areProducts_119 : decode cL_areProducts 119 = .ok (.fdiv, 1) := by decide +kernel
theorem dL_areProducts_120 : decode cL_areProducts 120 = .ok (.fstore 5, 2) := by decide +kernel
theorem dL_areProducts_122 : decode cL_areProducts 122 = .ok (.aload_n 0, 1) := by decide +kernel
theorem dL_areProducts_123 : decode cL_areProducts 123 = .ok (.iload 4, 2) := by decide +kernel
theorem dL_areProducts_125 : decode cL_areProducts 125 = .ok (.invokevirtual 66, 3) := by decide +kernel
theorem dL_areProducts_128 : decode cL_areProducts 128 = .ok (.aload_n 1, 1) := by decide +kernel
theorem dL_areProducts_129 : decode cL_areProducts 129 = .ok (.bipush 6, 2) := by decide +kernel
theorem dL_areProducts_131 : decode cL_areProducts 131 = .ok (.iload 4, 2) := by decide +kernel
theorem dL_areProducts_133 : decode cL_areProducts 133 = .ok (.imul, 1) := by decide +kernel
theorem dL_areProducts_134 : decode cL_areProducts 134 = .ok (.iconst 3, 1) := by decide +kernel
theorem dL_areProducts_135 : decode cL_areProducts 135 = .ok (.iadd, 1) := by decide +kernel
theorem dL_areProducts_136 : decode cL_areProducts 136 = .ok (.iaload, 1) := by decide +kernel
theorem dL_areProducts_137 : decode cL_areProducts 137 = .ok (.if_icmp .ne 37, 3) := by decide +kernel
theorem dL_areProducts_140 : decode cL_areProducts 140 = .ok (.aload_n 0, 1) := by decide +kernel
theorem dL_areProducts_141 : decode cL_areProducts 141 = .ok (.iload 4, 2) := by decide +kernel
theorem dL_areProducts_143 : decode cL_areProducts 143 = .ok (.invokevirtual 69, 3) := by decide +kernel
theorem dL_areProducts_146 : decode cL_areProducts 146 = .ok (.aload_n 1, 1) := by decide +kernel
theorem dL_areProducts_147 : decode cL_areProducts 147 = .ok (.bipush 6, 2) := by decide +kernel
theorem dL_areProducts_149 : decode cL_areProducts 149 = .ok (.iload 4, 2) := by decide +kernel
theorem dL_areProducts_151 : decode cL_areProducts 151 = .ok (.imul, 1) := by decide +kernel
theorem dL_areProducts_152 : decode cL_areProducts 152 = .ok (.iconst 4, 1) := by decide +kernel
theorem dL_areProducts_153 : decode cL_areProducts 153 = .ok (.iadd, 1) := by decide +kernel
theorem dL_areProducts_154 : decode cL_areProducts 154 = .ok (.iaload, 1) := by decide +kernel
theorem dL_areProducts_155 : decode cL_areProducts 155 = .ok (.if_icmp .ne 19, 3) := by decide +kernel
theorem dL_areProducts_158 : decode cL_areProducts 158 = .ok (.aload_n 0, 1) := by decide +kernel
theorem dL_areProducts_159 : decode cL_areProducts 159 = .ok (.iload 4, 2) := by decide +kernel
theorem dL_areProducts_161 : decode cL_areProducts 161 = .ok (.invokevirtual 75, 3) := by decide +kernel
theorem dL_areProducts_164 : decode cL_areProducts 164 = .ok (.fload 5, 2) := by decide +kernel
theorem dL_areProducts_166 : decode cL_areProducts 166 = .ok (.fcmp .l, 1) := by decide +kernel
theorem dL_areProducts_167 : decode cL_areProducts 167 = .ok (.ifCond .ne 7, 3) := by decide +kernel
theorem dL_areProducts_170 : decode cL_areProducts 170 = .ok (.iconst 1, 1) := by decide +kernel
theorem dL_areProducts_171 : decode cL_areProducts 171 = .ok (.goto 4, 3) := by decide +kernel
theorem dL_areProducts_174 : decode cL_areProducts 174 = .ok (.iconst 0, 1) := by decide +kernel
theorem dL_areProducts_175 : decode cL_areProducts 175 = .ok (.istore_n 3, 1) := by decide +kernel
theorem dL_areProducts_176 : decode cL_areProducts 176 = .ok (.iinc 4 1, 3) := by decide +kernel
theorem dL_areProducts_179 : decode cL_areProducts 179 = .ok (.goto (-96), 3) := by decide +kernel
theorem dL_areProducts_182 : decode cL_areProducts 182 = .ok (.iconst 0, 1) := by decide +kernel
theorem dL_areProducts_183 : decode cL_areProducts 183 = .ok (.istore 4, 2) := by decide +kernel
theorem dL_areProducts_185 : decode cL_areProducts 185 = .ok (.iload 4, 2) := by decide +kernel
theorem dL_areProducts_187 : decode cL_areProducts 187 = .ok (.iconst 3, 1) := by decide +kernel
theorem dL_areProducts_188 : decode cL_areProducts 188 = .ok (.if_icmp .ge 37, 3) := by decide +kernel
theorem dL_areProducts_191 : decode cL_areProducts 191 = .ok (.iload_n 3, 1) := by decide +kernel
theorem dL_areProducts_192 : decode cL_areProducts 192 = .ok (.ifCond .eq 33, 3) := by decide +kernel
theorem dL_areProducts_195 : decode cL_areProducts 195 = .ok (.aload_n 0, 1) := by decide +kernel
theorem dL_areProducts_196 : decode cL_areProducts 196 = .ok (.iconst (-1), 1) := by decide +kernel
theorem dL_areProducts_197 : decode cL_areProducts 197 = .ok (.iload 4, 2) := by decide +kernel
theorem dL_areProducts_199 : decode cL_areProducts 199 = .ok (.isub, 1) := by decide +kernel
theorem dL_areProducts_200 : decode cL_areProducts 200 = .ok (.invokevirtual 72, 3) := by decide +kernel
theorem dL_areProducts_203 : decode cL_areProducts 203 = .ok (.aload_n 2, 1) := by decide +kernel
theorem dL_areProducts_204 : decode cL_areProducts 204 = .ok (.bipush 7, 2) := by decide +kernel
theorem dL_areProducts_206 : decode cL_areProducts 206 = .ok (.iload 4, 2) := by decide +kernel
theorem dL_areProducts_208 : decode cL_areProducts 208 = .ok (.iadd, 1) := by decide +kernel
theorem dL_areProducts_209 : decode cL_areProducts 209 = .ok (.iaload, 1) := by decide +kernel
theorem dL_areProducts_210 : decode cL_areProducts 210 = .ok (.if_icmp .ne 7, 3) := by decide +kernel
theorem dL_areProducts_213 : decode cL_areProducts 213 = .ok (.iconst 1, 1) := by decide +kernel
theorem dL_areProducts_214 : decode cL_areProducts 214 = .ok (.goto 4, 3) := by decide +kernel
theorem dL_areProducts_217 : decode cL_areProducts 217 = .ok (.iconst 0, 1) := by decide +kernel
theorem dL_areProducts_218 : decode cL_areProducts 218 = .ok (.istore_n 3, 1) := by decide +kernel
theorem dL_areProducts_219 : decode cL_areProducts 219 = .ok (.iinc 4 1, 3) := by decide +kernel
theorem dL_areProducts_222 : decode cL_areProducts 222 = .ok (.goto (-37), 3) := by decide +kernel
theorem dL_areProducts_225 : decode cL_areProducts 225 = .ok (.iload_n 3, 1) := by decide +kernel
theorem dL_areProducts_226 : decode cL_areProducts 226 = .ok (.ireturn, 1) := by decide +kernel
set_option maxRecDepth 20000 in
theorem ggL_isProduct_X5_products : GoodIn wsL_isProduct wsX5_products := goodIn_r _ [5, 6, 246, 247, 248, 249, 250, 251, 252, 253, 254, 255, 256, 257, 258, 259] (by decide +kernel) (by decide +kernel)
set_option maxRecDepth 20000 in
theorem gL_isProduct_X5_products : GoodIn wsL_isProduct (wsV RL 100 RX5 yX5_products wsX5_products) := goodIn_app (goodIn_of _ (by decide +kernel)) ggL_isProduct_X5_products
set_option maxRecDepth 20000 in
theorem ggL_isProduct_L_does : GoodIn wsL_isProduct wsL_does := goodIn_ca (goodIn_ca (goodIn_ca (goodIn_r _ [10, 11, 12, 13, 14, 15, 9, 16, 17, 18, 19, 4, 20, 21, 22, 23, 24, 25, 26, 27, 28, 29, 30, 31, 32, 33, 34, 35, 36, 37, 38, 6, 39, 40, 41, 42, 43, 44, 45, 46, 47, 48, 49, 50, 51, 52, 53, 54, 55, 56, 57, 58, 59, 60, 61, 62, 63, 64, 65, 66, 67, 68, 69, 70, 71, 72, 73, 74, 75, 76, 77, 78, 79, 80, 81, 82, 83, 84, 85, 86, 87, 88, 89, 90, 91, 92, 93, 94, 95, 96, 97, 98, 99, 100, 101, 102, 103, 104, 105, 106, 107, 108, 109, 110, 111, 112, 113, 114, 115, 116, 117, 118, 119, 120, 121, 122, 123, 124, 125, 126, 127, 128, 129, 130, 131, 132, 133, 134, 135, 136, 137, 138, 139, 140, 141, 142, 143, 144, 145, 146, 147, 148, 149, 150, 151, 152, 153, 154, 155, 156, 157, 158, 159, 160, 161, 162, 163, 164, 165, 166, 167, 168, 169, 170, 171, 172, 173, 174, 175, 176, 177, 178, 179, 180, 181, 182, 183, 184, 185, 186, 187, 188, 189, 190, 191, 192, 193, 194, 195, 196, 197, 198, 199, 200, 201, 202, 203, 204, 205, 206, 207, 208, 209, 210, 211, 212, 213, 214, 215, 216, 217, 218, 219, 220, 221, 222, 223, 224, 225, 226, 227, 228, 229, 230, 231, 232, 233, 234, 235, 236, 237, 238, 239, 240, 241, 242, 243, 244, 245, 246, 247, 248, 249, 250, 251, 252, 253, 254, 255, 256, 257, 258, 259, 260, 261, 262, 263, 264, 265, 266, 267, 268, 269, 270, 271, 272, 273, 274, 275, 276, 277, 278, 279] (by decide +kernel) (by decide +kernel)) (goodIn_sub (fun _ h => List.mem_cons_of_mem _ (List.mem_append_left _ (List.mem_append_left _ (List.mem_append_right _ h)))) (by decide +kernel))) (goodIn_sub (fun _ h => List.mem_cons_of_mem _ (List.mem_append_left _ (List.mem_append_right _ h))) (by decide +kernel))) (goodIn_sub (fun _ h => List.mem_cons_of_mem _ (List.mem_append_right _ h)) (by decide +kernel))
set_option maxRecDepth 20000 in
theorem gL_isProduct_L_does : GoodIn wsL_isProduct (va_wsS RL 113 yL_does wsL_does) := goodIn_app (goodIn_of _ (by decide +kernel)) ggL_isProduct_L_does
theorem dL_isProduct_0 : decode cL_isProduct 0 = .ok (.iload 4, 2) := by decide +kernel
theorem dL_isProduct_2 : decode cL_isProduct 2 = .ok (.iconst 4, 1) := by decide +kernel
theorem dL_isProduct_3 : decode cL_isProduct 3 = .ok (.irem, 1) := by decide +kernel
theorem dL_isProduct_4 : decode cL_isProduct 4 = .ok (.istore 7, 2) := by decide +kernel
theorem dL_isProduct_6 : decode cL_isProduct 6 = .ok (.iload 5, 2) := by decide +kernel
theorem dL_isProduct_8 : decode cL_isProduct 8 = .ok (.iconst 4, 1) := by decide +kernel
theorem dL_isProduct_9 : decode cL_isProduct 9 = .ok (.irem, 1) := by decide +kernel
theorem dL_isProduct_10 : decode cL_isProduct 10 = .ok (.istore 8, 2) := by decide +kernel
theorem dL_isProduct_12 : decode cL_isProduct 12 = .ok (.iload 6, 2) := by decide +kernel
theorem dL_isProduct_14 : decode cL_isProduct 14 = .ok (.bipush 25, 2) := by decide +kernel
theorem dL_isProduct_16 : decode cL_isProduct 16 = .ok (.irem, 1) := by decide +kernel
theorem dL_isProduct_17 : decode cL_isProduct 17 = .ok (.ifCond .ne 9, 3) := by decide +kernel
theorem dL_isProduct_20 : decode cL_isProduct 20 = .ok (.sipush 1001, 3) := by decide +kernel
theorem dL_isProduct_23 : decode cL_isProduct 23 = .ok (.goto 13, 3) := by decide +kernel
theorem dL_isProduct_26 : decode cL_isProduct 26 = .ok (.iconst 1, 1) := by decide +kernel
theorem dL_isProduct_27 : decode cL_isProduct 27 = .ok (.iload 6, 2) := by decide +kernel
theorem dL_isProduct_29 : decode cL_isProduct 29 = .ok (.bipush 6, 2) := by decide +kernel
theorem dL_isProduct_31 : decode cL_isProduct 31 = .ok (.irem, 1) := by decide +kernel
theorem dL_isProduct_32 : decode cL_isProduct 32 = .ok (.bipush 40, 2) := by decide +kernel
theorem dL_isProduct_34 : decode cL_isProduct 34 = .ok (.imul, 1) := by decide +kernel
theorem dL_isProduct_35 : decode cL_isProduct 35 = .ok (.iadd, 1) := by decide +kernel
theorem dL_isProduct_36 : decode cL_isProduct 36 = .ok (.istore 9, 2) := by decide +kernel
theorem dL_isProduct_38 : decode cL_isProduct 38 = .ok (.iload 7, 2) := by decide +kernel
theorem dL_isProduct_40 : decode cL_isProduct 40 = .ok (.iconst 3, 1) := by decide +kernel
theorem dL_isProduct_41 : decode cL_isProduct 41 = .ok (.if_icmp .ge 13, 3) := by decide +kernel
theorem dL_isProduct_44 : decode cL_isProduct 44 = .ok (.iload 8, 2) := by decide +kernel
theorem dL_isProduct_46 : decode cL_isProduct 46 = .ok (.iconst 3, 1) := by decide +kernel
theorem dL_isProduct_47 : decode cL_isProduct 47 = .ok (.if_icmp .ge 7, 3) := by decide +kernel
theorem dL_isProduct_50 : decode cL_isProduct 50 = .ok (.iconst 1, 1) := by decide +kernel
theorem dL_isProduct_51 : decode cL_isProduct 51 = .ok (.goto 4, 3) := by decide +kernel
theorem dL_isProduct_54 : decode cL_isProduct 54 = .ok (.iconst 0, 1) := by decide +kernel
theorem dL_isProduct_55 : decode cL_isProduct 55 = .ok (.istore 10, 2) := by decide +kernel
theorem dL_isProduct_57 : decode cL_isProduct 57 = .ok (.iload 8, 2) := by decide +kernel
theorem dL_isProduct_59 : decode cL_isProduct 59 = .ok (.iload 7, 2) := by decide +kernel
theorem dL_isProduct_61 : decode cL_isProduct 61 = .ok (.if_icmp .lt 15, 3) := by decide +kernel
theorem dL_isProduct_64 : decode cL_isProduct 64 = .ok (.iload 9, 2) := by decide +kernel
theorem dL_isProduct_66 : decode cL_isProduct 66 = .ok (.sipush 1001, 3) := by decide +kernel
theorem dL_isProduct_69 : decode cL_isProduct 69 = .ok (.if_icmp .ge 7, 3) := by decide +kernel
theorem dL_isProduct_72 : decode cL_isProduct 72 = .ok (.iconst 1, 1) := by decide +kernel
theorem dL_isProduct_73 : decode cL_isProduct 73 = .ok (.goto 4, 3) := by decide +kernel
theorem dL_isProduct_76 : decode cL_isProduct 76 = .ok (.iconst 0, 1) := by decide +kernel
theorem dL_isProduct_77 : decode cL_isProduct 77 = .ok (.istore 11, 2) := by decide +kernel
theorem dL_isProduct_79 : decode cL_isProduct 79 = .ok (.iconst 0, 1) := by decide +kernel
theorem dL_isProduct_80 : decode cL_isProduct 80 = .ok (.istore 12, 2) := by decide +kernel
theorem dL_isProduct_82 : decode cL_isProduct 82 = .ok (.iconst 0, 1) := by decide +kernel
theorem dL_isProduct_83 : decode cL_isProduct 83 = .ok (.istore 13, 2) := by decide +kernel
theorem dL_isProduct_85 : decode cL_isProduct 85 = .ok (.iload 13, 2) := by decide +kernel
theorem dL_isProduct_87 : decode cL_isProduct 87 = .ok (.aload_n 3, 1) := by decide +kernel
theorem dL_isProduct_88 : decode cL_isProduct 88 = .ok (.iconst 4, 1) := by decide +kernel
theorem dL_isProduct_89 : decode cL_isProduct 89 = .ok (.iaload, 1) := by decide +kernel
theorem dL_isProduct_90 : decode cL_isProduct 90 = .ok (.if_icmp .ge 61, 3) := by decide +kernel
theorem dL_isProduct_93 : decode cL_isProduct 93 = .ok (.iload 12, 2) := by decide +kernel
theorem dL_isProduct_95 : decode cL_isProduct 95 = .ok (.ifCond .ne 43, 3) := by decide +kernel
theorem dL_isProduct_98 : decode cL_isProduct 98 = .ok (.aload_n 1, 1) := by decide +kernel
theorem dL_isProduct_99 : decode cL_isProduct 99 = .ok (.bipush 6, 2) := by decide +kernel
theorem dL_isProduct_101 : decode cL_isProduct 101 = .ok (.iload 13, 2) := by decide +kernel
theorem dL_isProduct_103 : decode cL_isProduct 103 = .ok (.imul, 1) := by decide +kernel
theorem dL_isProduct_104 : decode cL_isProduct 104 = .ok (.iaload, 1) := by decide +kernel
theorem dL_isProduct_105 : decode cL_isProduct 105 = .ok (.iload 7, 2) := by decide +kernel
theorem dL_isProduct_107 : decode cL_isProduct 107 = .ok (.if_icmp .ne 35, 3) := by decide +kernel
theorem dL_isProduct_110 : decode cL_isProduct 110 = .ok (.aload_n 1, 1) := by decide +kernel
theorem dL_isProduct_111 : decode cL_isProduct 111 = .ok (.bipush 6, 2) := by decide +kernel
theorem dL_isProduct_113 : decode cL_isProduct 113 = .ok (.iload 13, 2) := by decide +kernel
theorem dL_isProduct_115 : decode cL_isProduct 115 = .ok (.imul, 1) := by decide +kernel
theorem dL_isProduct_116 : decode cL_isProduct 116 = .ok (.iconst 1, 1) := by decide +kernel
theorem dL_isProduct_117 : decode cL_isProduct 117 = .ok (.iadd, 1) := by decide +kernel
theorem dL_isProduct_118 : decode cL_isProduct 118 = .ok (.iaload, 1) := by decide +kernel
theorem dL_isProduct_119 : decode cL_isProduct 119 = .ok (.iload 8, 2) := by decide +kernel
theorem dL_isProduct_121 : decode cL_isProduct 121 = .ok (.if_icmp .ne 21, 3) := by decide +kernel
theorem dL_isProduct_124 : decode cL_isProduct 124 = .ok (.aload_n 1, 1) := by decide +kernel
theorem dL_isProduct_125 : decode cL_isProduct 125 = .ok (.bipush 6, 2) := by decide +kernel
theorem dL_isProduct_127 : decode cL_isProduct 127 = .ok (.iload 13, 2) := by decide +kernel
theorem dL_isProduct_129 : decode cL_isProduct 129 = .ok (.imul, 1) := by decide +kernel
theorem dL_isProduct_130 : decode cL_isProduct 130 = .ok (.iconst 2, 1) := by decide +kernel
theorem dL_isProduct_131 : decode cL_isProduct 131 = .ok (.iadd, 1) := by decide +kernel
theorem dL_isProduct_132 : decode cL_isProduct 132 = .ok (.iaload, 1) := by decide +kernel
theorem dL_isProduct_133 : decode cL_isProduct 133 = .ok (.iload 9, 2) := by decide +kernel
theorem dL_isProduct_135 : decode cL_isProduct 135 = .ok (.if_icmp .ne 7, 3) := by decide +kernel
theorem dL_isProduct_138 : decode cL_isProduct 138 = .ok (.iconst 1, 1) := by decide +kernel
theorem dL_isProduct_139 : decode cL_isProduct 139 = .ok (.goto 4, 3) := by decide +kernel
theorem dL_isProduct_142 : decode cL_isProduct 142 = .ok (.iconst 0, 1) := by decide +kernel
theorem dL_isProduct_143 : decode cL_isProduct 143 = .ok (.istore 12, 2) := by decide +kernel
theorem dL_isProduct_145 : decode cL_isProduct 145 = .ok (.iinc 13 1, 3) := by decide +kernel
theorem dL_isProduct_148 : decode cL_isProduct 148 = .ok (.goto (-63), 3) := by decide +kernel
theorem dL_isProduct_151 : decode cL_isProduct 151 = .ok (.iload 10, 2) := by decide +kernel
theorem dL_isProduct_153 : decode cL_isProduct 153 = .ok (.ifCond .eq 36, 3) := by decide +kernel
theorem dL_isProduct_156 : decode cL_isProduct 156 = .ok (.iload 11, 2) := by decide +kernel
theorem dL_isProduct_158 : decode cL_isProduct 158 = .ok (.ifCond .eq 31, 3) := by decide +kernel
theorem dL_isProduct_161 : decode cL_isProduct 161 = .ok (.iload 12, 2) := by decide +kernel
theorem dL_isProduct_163 : decode cL_isProduct 163 = .ok (.ifCond .ne 26, 3) := by decide +kernel
theorem dL_isProduct_166 : decode cL_isProduct 166 = .ok (.aload_n 3, 1) := by decide +kernel
theorem dL_isProduct_167 : decode cL_isProduct 167 = .ok (.iconst 4, 1) := by decide +kernel
theorem dL_isProduct_168 : decode cL_isProduct 168 = .ok (.iaload, 1) := by decide +kernel
theorem dL_isProduct_169 : decode cL_isProduct 169 = .ok (.bipush 6, 2) := by decide +kernel
theorem dL_isProduct_171 : decode cL_isProduct 171 = .ok (.if_icmp .ne 18, 3) := by decide +kernel
theorem dL_isProduct_174 : decode cL_isProduct 174 = .ok (.aload_n 0, 1) := by decide +kernel
theorem dL_isProduct_175 : decode cL_isProduct 175 = .ok (.invokevirtual 100, 3) := by decide +kernel
theorem dL_isProduct_178 : decode cL_isProduct 178 = .ok (.bipush 6, 2) := by decide +kernel
theorem dL_isProduct_180 : decode cL_isProduct 180 = .ok (.if_icmp .ne 7, 3) := by decide +kernel
theorem dL_isProduct_183 : decode cL_isProduct 183 = .ok (.iconst 1, 1) := by decide +kernel
theorem dL_isProduct_184 : decode cL_isProduct 184 = .ok (.goto 4, 3) := by decide +kernel
theorem dL_isProduct_187 : decode cL_isProduct 187 = .ok (.iconst 0, 1) := by decide +kernel
theorem dL_isProduct_188 : decode cL_isProduct 188 = .ok (.ireturn, 1) := by decide +kernel
theorem dL_isProduct_189 : decode cL_isProduct 189 = .ok (.iload 10, 2) := by decide +kernel
theorem dL_isProduct_191 : decode cL_isProduct 191 = .ok (.ifCond .ne 8, 3) := by decide +kernel
theorem dL_isProduct_194 : decode cL_isProduct 194 = .ok (.bipush (-30), 2) := by decide +kernel
theorem dL_isProduct_196 : decode cL_isProduct 196 = .ok (.goto 26, 3) := by decide +kernel
theorem dL_isProduct_199 : decode cL_isProduct 199 = .ok (.iload 11, 2) := by decide +kernel
theorem dL_isProduct_201 : decode cL_isProduct 201 = .ok (.ifCond .ne 8, 3) := by decide +kernel
theorem dL_isProduct_204 : decode cL_isProduct 204 = .ok (.bipush (-20), 2) := by decide +kernel
theorem dL_isProduct_206 : decode cL_isProduct 206 = .ok (.goto 16, 3) := by decide +kernel
theorem dL_isProduct_209 : decode cL_isProduct 209 = .ok (.iload 12, 2) := by decide +kernel
theorem dL_isProduct_211 : decode cL_isProduct 211 = .ok (.ifCond .eq 8, 3) := by decide +kernel
theorem dL_isProduct_214 : decode cL_isProduct 214 = .ok (.bipush (-10), 2) := by decide +kernel
theorem dL_isProduct_216 : decode cL_isProduct 216 = .ok (.goto 6, 3) := by decide +kernel
theorem dL_isProduct_219 : decode cL_isProduct 219 = .ok (.aload_n 3, 1) := by decide +kernel
theorem dL_isProduct_220 : decode cL_isProduct 220 = .ok (.iconst 4, 1) := by decide +kernel
theorem dL_isProduct_221 : decode cL_isProduct 221 = .ok (.iaload, 1) := by decide +kernel
theorem dL_isProduct_222 : decode cL_isProduct 222 = .ok (.istore 13, 2) := by decide +kernel
theorem dL_isProduct_224 : decode cL_isProduct 224 = .ok (.iload 13, 2) := by decide +kernel
theorem dL_isProduct_226 : decode cL_isProduct 226 = .ok (.ifCond .lt 87, 3) := by decide +kernel
theorem dL_isProduct_229 : decode cL_isProduct 229 = .ok (.bipush 6, 2) := by decide +kernel
theorem dL_isProduct_231 : decode cL_isProduct 231 = .ok (.iload 13, 2) := by decide +kernel
theorem dL_isProduct_233 : decode cL_isProduct 233 = .ok (.imul, 1) := by decide +kernel
theorem dL_isProduct_234 : decode cL_isProduct 234 = .ok (.istore 14, 2) := by decide +kernel
theorem dL_isProduct_236 : decode cL_isProduct 236 = .ok (.aload_n 1, 1) := by decide +kernel
theorem dL_isProduct_237 : decode cL_isProduct 237 = .ok (.iload 14, 2) := by decide +kernel
theorem dL_isProduct_239 : decode cL_isProduct 239 = .ok (.iload 7, 2) := by decide +kernel
theorem dL_isProduct_241 : decode cL_isProduct 241 = .ok (.iastore, 1) := by decide +kernel
theorem dL_isProduct_242 : decode cL_isProduct 242 = .ok (.aload_n 1, 1) := by decide +kernel
theorem dL_isProduct_243 : decode cL_isProduct 243 = .ok (.iload 14, 2) := by decide +kernel
theorem dL_isProduct_245 : decode cL_isProduct 245 = .ok (.iconst 1, 1) := by decide +kernel
theorem dL_isProduct_246 : decode cL_isProduct 246 = .ok (.iadd, 1) := by decide +kernel
theorem dL_isProduct_247 : decode cL_isProduct 247 = .ok (.iload 8, 2) := by decide +kernel
theorem dL_isProduct_249 : decode cL_isProduct 249 = .ok (.iastore, 1) := by decide +kernel
theorem dL_isProduct_250 : decode cL_isProduct 250 = .ok (.aload_n 1, 1) := by decide +kernel
theorem dL_isProduct_251 : decode cL_isProduct 251 = .ok (.iload 14, 2) := by decide +kernel
theorem dL_isProduct_253 : decode cL_isProduct 253 = .ok (.iconst 2, 1) := by decide +kernel
theorem dL_isProduct_254 : decode cL_isProduct 254 = .ok (.iadd, 1) := by decide +kernel
theorem dL_isProduct_255 : decode cL_isProduct 255 = .ok (.iload 9, 2) := by decide +kernel
theorem dL_isProduct_257 : decode cL_isProduct 257 = .ok (.iastore, 1) := by decide +kernel
theorem dL_isProduct_258 : decode cL_isProduct 258 = .ok (.aload_n 1, 1) := by decide +kernel
theorem dL_isProduct_259 : decode cL_isProduct 259 = .ok (.iload 14, 2) := by decide +kernel
theorem dL_isProduct_261 : decode cL_isProduct 261 = .ok (.iconst 3, 1) := by decide +kernel
theorem dL_isProduct_262 : decode cL_isProduct 262 = .ok (.iadd, 1) := by decide +kernel
theorem dL_isProduct_263 : decode cL_isProduct 263 = .ok (.iconst 0, 1) := by decide +kernel
theorem dL_isProduct_264 : decode cL_isProduct 264 = .ok (.iastore, 1) := by decide +kernel
theorem dL_isProduct_265 : decode cL_isProduct 265 = .ok (.aload_n 1, 1) := by decide +kernel
theorem dL_isProduct_266 : decode cL_isProduct 266 = .ok (.iload 14, 2) := by decide +kernel
theorem dL_isProduct_268 : decode cL_isProduct 268 = .ok (.iconst 4, 1) := by decide +kernel
theorem dL_isProduct_269 : decode cL_isProduct 269 = .ok (.iadd, 1) := by decide +kernel
theorem dL_isProduct_270 : decode cL_isProduct 270 = .ok (.iconst 0, 1) := by decide +kernel
theorem dL_isProduct_271 : decode cL_isProduct 271 = .ok (.iastore, 1) := by decide +kernel
theorem dL_isProduct_272 : decode cL_isProduct 272 = .ok (.aload_n 1, 1) := by decide +kernel
theorem dL_isProduct_273 : decode cL_isProduct 273 = .ok (.iload 14, 2) := by decide +kernel
theorem dL_isProduct_275 : decode cL_isProduct 275 = .ok (.iconst 5, 1) := by decide +kernel
theorem dL_isProduct_276 : decode cL_isProduct 276 = .ok (.iadd, 1) := by decide +kernel
theorem dL_isProduct_277 : decode cL_isProduct 277 = .ok (.iconst 0, 1) := by decide +kernel
theorem dL_isProduct_278 : decode cL_isProduct 278 = .ok (.iastore, 1) := by decide +kernel
theorem dL_isProduct_279 : decode cL_isProduct 279 = .ok (.iconst 0, 1) := by decide +kernel
theorem dL_isProduct_280 : decode cL_isProduct 280 = .ok (.istore 15, 2) := by decide +kernel
theorem dL_isProduct_282 : decode cL_isProduct 282 = .ok (.iload 15, 2) := by decide +kernel
theorem dL_isProduct_284 : decode cL_isProduct 284 = .ok (.bipush 10, 2) := by decide +kernel
theorem dL_isProduct_286 : decode cL_isProduct 286 = .ok (.if_icmp .ge 20, 3) := by decide +kernel
theorem dL_isProduct_289 : decode cL_isProduct 289 = .ok (.aload_n 2, 1) := by decide +kernel
theorem dL_isProduct_290 : decode cL_isProduct 290 = .ok (.bipush 10, 2) := by decide +kernel
theorem dL_isProduct_292 : decode cL_isProduct 292 = .ok (.iload 13, 2) := by decide +kernel
theorem dL_isProduct_294 : decode cL_isProduct 294 = .ok (.imul, 1) := by decide +kernel
theorem dL_isProduct_295 : decode cL_isProduct 295 = .ok (.iload 15, 2) := by decide +kernel
theorem dL_isProduct_297 : decode cL_isProduct 297 = .ok (.iadd, 1) := by decide +kernel
theorem dL_isProduct_298 : decode cL_isProduct 298 = .ok (.iconst 0, 1) := by decide +kernel
theorem dL_isProduct_299 : decode cL_isProduct 299 = .ok (.iastore, 1) := by decide +kernel
theorem dL_isProduct_300 : decode cL_isProduct 300 = .ok (.iinc 15 1, 3) := by decide +kernel
theorem dL_isProduct_303 : decode cL_isProduct 303 = .ok (.goto (-21), 3) := by decide +kernel
theorem dL_isProduct_306 : decode cL_isProduct 306 = .ok (.aload_n 3, 1) := by decide +kernel
theorem dL_isProduct_307 : decode cL_isProduct 307 = .ok (.iconst 4, 1) := by decide +kernel
theorem dL_isProduct_308 : decode cL_isProduct 308 = .ok (.dup2, 1) := by decide +kernel
theorem dL_isProduct_309 : decode cL_isProduct 309 = .ok (.iaload, 1) := by decide +kernel
theorem dL_isProduct_310 : decode cL_isProduct 310 = .ok (.iconst 1, 1) := by decide +kernel
theorem dL_isProduct_311 : decode cL_isProduct 311 = .ok (.iadd, 1) := by decide +kernel
theorem dL_isProduct_312 : decode cL_isProduct 312 = .ok (.iastore, 1) := by decide +kernel
theorem dL_isProduct_313 : decode cL_isProduct 313 = .ok (.aload_n 0, 1) := by decide +kernel
theorem dL_isProduct_314 : decode cL_isProduct 314 = .ok (.iconst 1, 1) := by decide +kernel
theorem dL_isProduct_315 : decode cL_isProduct 315 = .ok (.iload 7, 2) := by decide +kernel
theorem dL_isProduct_317 : decode cL_isProduct 317 = .ok (.iload 8, 2) := by decide +kernel
theorem dL_isProduct_319 : decode cL_isProduct 319 = .ok (.iload 9, 2) := by decide +kernel
theorem dL_isProduct_321 : decode cL_isProduct 321 = .ok (.iconst 0, 1) := by decide +kernel
theorem dL_isProduct_322 : decode cL_isProduct 322 = .ok (.invokestatic 113, 3) := by decide +kernel
theorem dL_isProduct_325 : decode cL_isProduct 325 = .ok (.iload 13, 2) := by decide +kernel
theorem dL_isProduct_327 : decode cL_isProduct 327 = .ok (.if_icmp .ne 7, 3) := by decide +kernel
theorem dL_isProduct_330 : decode cL_isProduct 330 = .ok (.iconst 1, 1) := by decide +kernel
theorem dL_isProduct_331 : decode cL_isProduct 331 = .ok (.goto 4, 3) := by decide +kernel
theorem dL_isProduct_334 : decode cL_isProduct 334 = .ok (.iconst 0, 1) := by decide +kernel
theorem dL_isProduct_335 : decode cL_isProduct 335 = .ok (.ireturn, 1) := by decide +kernel
theorem dL_books_0 : decode cL_books 0 = .ok (.aload_n 0, 1) := by decide +kernel
theorem dL_books_1 : decode cL_books 1 = .ok (.aload_n 1, 1) := by decide +kernel
theorem dL_books_2 : decode cL_books 2 = .ok (.bipush 6, 2) := by decide +kernel
theorem dL_books_4 : decode cL_books 4 = .ok (.iaload, 1) := by decide +kernel
theorem dL_books_5 : decode cL_books 5 = .ok (.sipush 1000, 3) := by decide +kernel
theorem dL_books_8 : decode cL_books 8 = .ok (.iload_n 2, 1) := by decide +kernel
theorem dL_books_9 : decode cL_books 9 = .ok (.imul, 1) := by decide +kernel
theorem dL_books_10 : decode cL_books 10 = .ok (.bipush 100, 2) := by decide +kernel
theorem dL_books_12 : decode cL_books 12 = .ok (.iload_n 3, 1) := by decide +kernel
theorem dL_books_13 : decode cL_books 13 = .ok (.imul, 1) := by decide +kernel
theorem dL_books_14 : decode cL_books 14 = .ok (.iadd, 1) := by decide +kernel
theorem dL_books_15 : decode cL_books 15 = .ok (.iload 4, 2) := by decide +kernel
theorem dL_books_17 : decode cL_books 17 = .ok (.iadd, 1) := by decide +kernel
theorem dL_books_18 : decode cL_books 18 = .ok (.iastore, 1) := by decide +kernel
theorem dL_books_19 : decode cL_books 19 = .ok (.aload_n 0, 1) := by decide +kernel
theorem dL_books_20 : decode cL_books 20 = .ok (.bipush 20, 2) := by decide +kernel
theorem dL_books_22 : decode cL_books 22 = .ok (.aload_n 1, 1) := by decide +kernel
theorem dL_books_23 : decode cL_books 23 = .ok (.bipush 6, 2) := by decide +kernel
theorem dL_books_25 : decode cL_books 25 = .ok (.iaload, 1) := by decide +kernel
theorem dL_books_26 : decode cL_books 26 = .ok (.iadd, 1) := by decide +kernel
theorem dL_books_27 : decode cL_books 27 = .ok (.iload 5, 2) := by decide +kernel
theorem dL_books_29 : decode cL_books 29 = .ok (.iastore, 1) := by decide +kernel
theorem dL_books_30 : decode cL_books 30 = .ok (.aload_n 1, 1) := by decide +kernel
theorem dL_books_31 : decode cL_books 31 = .ok (.bipush 6, 2) := by decide +kernel
theorem dL_books_33 : decode cL_books 33 = .ok (.dup2, 1) := by decide +kernel
theorem dL_books_34 : decode cL_books 34 = .ok (.iaload, 1) := by decide +kernel
theorem dL_books_35 : decode cL_books 35 = .ok (.iconst 1, 1) := by decide +kernel
theorem dL_books_36 : decode cL_books 36 = .ok (.iadd, 1) := by decide +kernel
theorem dL_books_37 : decode cL_books 37 = .ok (.iastore, 1) := by decide +kernel
theorem dL_books_38 : decode cL_books 38 = .ok (.return_, 1) := by decide +kernel
set_option maxRecDepth 20000 in
theorem ggL_isAsked_L_does : GoodIn wsL_isAsked wsL_does := goodIn_ca (goodIn_ca (goodIn_ca (goodIn_r _ [4, 5, 6, 7, 8, 9, 3, 10, 11, 12, 13, 14, 15, 16, 17, 18, 19, 20, 21, 22, 23, 24, 25, 26, 27, 28, 29, 30, 31, 32, 33, 34, 35, 36, 37, 38, 39, 40, 41, 42, 43, 44, 45, 46, 47, 48, 49, 50, 51, 52, 53, 54, 55, 56, 57, 58, 59, 60, 61, 62, 63, 64, 65, 66, 67, 68, 69, 70, 71, 72, 73, 74, 75, 76, 77, 78, 79, 80, 81, 82, 83, 84, 85, 86, 87, 88, 89, 90, 91, 92, 93, 94, 95, 96, 97, 98, 99, 100, 101, 102, 103, 104, 105, 106, 107, 108, 109, 110, 111, 112, 113, 114, 115, 116, 117, 118, 119, 120, 121, 122, 123, 124, 125, 126, 127, 128, 129, 130, 131, 132, 133, 134, 135, 136, 137, 138, 139, 140, 141, 142, 143, 144, 145, 146, 147, 148, 149, 150, 151, 152, 153, 154, 155, 156, 157, 158, 159, 160, 161, 162, 163, 164, 165, 166, 167, 168, 169, 170, 171, 172, 173, 174, 175, 176, 177, 178, 179, 180, 181, 182, 183, 184, 185, 186, 187, 188, 189, 190, 191, 192, 193, 194, 195, 196, 197, 198, 199, 200, 201, 202, 203, 204, 205, 206, 207, 208, 209, 210, 211, 212, 213, 214, 215, 216, 217, 218, 219, 220, 221, 222, 223, 224, 225, 226, 227, 228, 229, 230, 231, 232, 233, 234, 235, 236, 237, 238, 239, 240, 241, 258, 259, 260, 261, 262, 263, 264, 265, 266, 267, 268, 269, 270, 271, 272, 273, 274, 275, 276, 277, 278, 279, 280, 281, 282, 283, 284, 285, 286, 287, 288, 289, 290, 291] (by decide +kernel) (by decide +kernel)) (goodIn_sub (fun _ h => List.mem_cons_of_mem _ (List.mem_append_left _ (List.mem_append_left _ (List.mem_append_right _ h)))) (by decide +kernel))) (goodIn_sub (fun _ h => List.mem_cons_of_mem _ (List.mem_append_left _ (List.mem_append_right _ h))) (by decide +kernel))) (goodIn_sub (fun _ h => List.mem_cons_of_mem _ (List.mem_append_right _ h)) (by decide +kernel))
set_option maxRecDepth 20000 in
theorem gL_isAsked_L_does : GoodIn wsL_isAsked (va_wsS RL 113 yL_does wsL_does) := goodIn_app (goodIn_of _ (by decide +kernel)) ggL_isAsked_L_does
set_option maxRecDepth 20000 in
theorem ggL_isAsked_L_authorised : GoodIn wsL_isAsked wsL_authorised := goodIn_r _ [244] (by decide +kernel) (by decide +kernel)
set_option maxRecDepth 20000 in
theorem gL_isAsked_L_authorised : GoodIn wsL_isAsked (va_wsS RL 106 yL_authorised wsL_authorised) := goodIn_app (goodIn_of _ (by decide +kernel)) ggL_isAsked_L_authorised
set_option maxRecDepth 20000 in
theorem ggL_isAsked_L_booked : GoodIn wsL_isAsked wsL_booked := goodIn_r _ [247] (by decide +kernel) (by decide +kernel)
set_option maxRecDepth 20000 in
theorem gL_isAsked_L_booked : GoodIn wsL_isAsked (va_wsS RL 103 yL_booked wsL_booked) := goodIn_app (goodIn_of _ (by decide +kernel)) ggL_isAsked_L_booked
set_option maxRecDepth 20000 in
theorem ggL_isAsked_L_guarded : GoodIn wsL_isAsked wsL_guarded := goodIn_r _ [250] (by decide +kernel) (by decide +kernel)
set_option maxRecDepth 20000 in
theorem gL_isAsked_L_guarded : GoodIn wsL_isAsked (va_wsS RL 109 yL_guarded wsL_guarded) := goodIn_app (goodIn_of _ (by decide +kernel)) ggL_isAsked_L_guarded
set_option maxRecDepth 20000 in
theorem ggL_isAsked_X5_bid : GoodIn wsL_isAsked wsX5_bid := goodIn_ca (goodIn_r _ [254, 30, 31, 39, 40, 14, 41, 18, 19, 20, 135, 136, 137, 138, 139, 140, 141, 142, 143, 64, 144, 145, 146, 147, 148, 149, 150, 151, 152, 153, 154, 155, 156, 157, 158, 159, 160, 161, 37, 162, 163, 54, 55, 164, 165, 166, 167, 168, 169, 170, 171, 172, 173, 174, 175, 176, 177, 178, 110, 111, 112, 113, 25, 90, 91, 92, 93, 82, 94, 95, 96, 97, 98, 99, 85, 100, 101, 102, 103, 104, 105, 179, 180, 181, 182, 183, 184, 185, 186, 187, 188, 189, 190, 191, 192, 193, 194, 195, 196, 258, 259, 260, 261, 262, 263, 264, 265, 266, 267, 268, 269, 270, 271, 284, 285, 286, 287, 288, 289, 290, 291, 272, 273, 274, 275, 276, 277, 278, 279, 280, 281, 282, 283] (by decide +kernel) (by decide +kernel)) (goodIn_sub (fun _ h => List.mem_cons_of_mem _ (List.mem_append_left _ (List.mem_append_right _ h))) (by decide +kernel))
set_option maxRecDepth 20000 in
theorem gL_isAsked_X5_bid : GoodIn wsL_isAsked (wsV RL 60 RX5 yX5_bid wsX5_bid) := goodIn_app (goodIn_of _ (by decide +kernel)) ggL_isAsked_X5_bid
set_option maxRecDepth 20000 in
theorem ggL_isAsked_L_books : GoodIn wsL_isAsked wsL_books := goodIn_r _ [257] (by decide +kernel) (by decide +kernel)
set_option maxRecDepth 20000 in
theorem gL_isAsked_L_books : GoodIn wsL_isAsked (va_wsS RL 117 yL_books wsL_books) := goodIn_app (goodIn_of _ (by decide +kernel)) ggL_isAsked_L_books
theorem dL_isAsked_0 : decode cL_isAsked 0 = .ok (.iload 5, 2) := by decide +kernel
theorem dL_isAsked_2 : decode cL_isAsked 2 = .ok (.aload 4, 2) := by decide +kernel
theorem dL_isAsked_4 : decode cL_isAsked 4 = .ok (.iconst 4, 1) := by decide +kernel
theorem dL_isAsked_5 : decode cL_isAsked 5 = .ok (.iaload, 1) := by decide +kernel
theorem dL_isAsked_6 : decode cL_isAsked 6 = .ok (.if_icmp .ne 24, 3) := by decide +kernel
theorem dL_isAsked_9 : decode cL_isAsked 9 = .ok (.aload_n 0, 1) := by decide +kernel
theorem dL_isAsked_10 : decode cL_isAsked 10 = .ok (.iconst 4, 1) := by decide +kernel
theorem dL_isAsked_11 : decode cL_isAsked 11 = .ok (.iload 5, 2) := by decide +kernel
theorem dL_isAsked_13 : decode cL_isAsked 13 = .ok (.iconst 0, 1) := by decide +kernel
theorem dL_isAsked_14 : decode cL_isAsked 14 = .ok (.iconst 0, 1) := by decide +kernel
theorem dL_isAsked_15 : decode cL_isAsked 15 = .ok (.iconst 0, 1) := by decide +kernel
theorem dL_isAsked_16 : decode cL_isAsked 16 = .ok (.invokestatic 113, 3) := by decide +kernel
theorem dL_isAsked_19 : decode cL_isAsked 19 = .ok (.bipush (-30), 2) := by decide +kernel
theorem dL_isAsked_21 : decode cL_isAsked 21 = .ok (.if_icmp .ne 7, 3) := by decide +kernel
theorem dL_isAsked_24 : decode cL_isAsked 24 = .ok (.iconst 1, 1) := by decide +kernel
theorem dL_isAsked_25 : decode cL_isAsked 25 = .ok (.goto 4, 3) := by decide +kernel
theorem dL_isAsked_28 : decode cL_isAsked 28 = .ok (.iconst 0, 1) := by decide +kernel
theorem dL_isAsked_29 : decode cL_isAsked 29 = .ok (.ireturn, 1) := by decide +kernel
theorem dL_isAsked_30 : decode cL_isAsked 30 = .ok (.bipush 6, 2) := by decide +kernel
theorem dL_isAsked_32 : decode cL_isAsked 32 = .ok (.iload 5, 2) := by decide +kernel
theorem dL_isAsked_34 : decode cL_isAsked 34 = .ok (.imul, 1) := by decide +kernel
theorem dL_isAsked_35 : decode cL_isAsked 35 = .ok (.istore 6, 2) := by decide +kernel
theorem dL_isAsked_37 : decode cL_isAsked 37 = .ok (.aload_n 0, 1) := by decide +kernel
theorem dL_isAsked_38 : decode cL_isAsked 38 = .ok (.iconst 4, 1) := by decide +kernel
theorem dL_isAsked_39 : decode cL_isAsked 39 = .ok (.iload 5, 2) := by decide +kernel
theorem dL_isAsked_41 : decode cL_isAsked 41 = .ok (.iconst 0, 1) := by decide +kernel
theorem dL_isAsked_42 : decode cL_isAsked 42 = .ok (.iconst 0, 1) := by decide +kernel
theorem dL_isAsked_43 : decode cL_isAsked 43 = .ok (.iconst 0, 1) := by decide +kernel
theorem dL_isAsked_44 : decode cL_isAsked 44 = .ok (.invokestatic 113, 3) := by decide +kernel
theorem dL_isAsked_47 : decode cL_isAsked 47 = .ok (.istore 7, 2) := by decide +kernel
theorem dL_isAsked_49 : decode cL_isAsked 49 = .ok (.aload_n 1, 1) := by decide +kernel
theorem dL_isAsked_50 : decode cL_isAsked 50 = .ok (.iload 6, 2) := by decide +kernel
theorem dL_isAsked_52 : decode cL_isAsked 52 = .ok (.iconst 4, 1) := by decide +kernel
theorem dL_isAsked_53 : decode cL_isAsked 53 = .ok (.iadd, 1) := by decide +kernel
theorem dL_isAsked_54 : decode cL_isAsked 54 = .ok (.dup2, 1) := by decide +kernel
theorem dL_isAsked_55 : decode cL_isAsked 55 = .ok (.iaload, 1) := by decide +kernel
theorem dL_isAsked_56 : decode cL_isAsked 56 = .ok (.iconst 1, 1) := by decide +kernel
theorem dL_isAsked_57 : decode cL_isAsked 57 = .ok (.iadd, 1) := by decide +kernel
theorem dL_isAsked_58 : decode cL_isAsked 58 = .ok (.iastore, 1) := by decide +kernel
theorem dL_isAsked_59 : decode cL_isAsked 59 = .ok (.iconst 0, 1) := by decide +kernel
theorem dL_isAsked_60 : decode cL_isAsked 60 = .ok (.istore 8, 2) := by decide +kernel
theorem dL_isAsked_62 : decode cL_isAsked 62 = .ok (.iconst 0, 1) := by decide +kernel
theorem dL_isAsked_63 : decode cL_isAsked 63 = .ok (.istore 9, 2) := by decide +kernel
theorem dL_isAsked_65 : decode cL_isAsked 65 = .ok (.aload_n 1, 1) := by decide +kernel
theorem dL_isAsked_66 : decode cL_isAsked 66 = .ok (.iload 6, 2) := by decide +kernel
theorem dL_isAsked_68 : decode cL_isAsked 68 = .ok (.iaload, 1) := by decide +kernel
theorem dL_isAsked_69 : decode cL_isAsked 69 = .ok (.istore 10, 2) := by decide +kernel
theorem dL_isAsked_71 : decode cL_isAsked 71 = .ok (.iload 10, 2) := by decide +kernel
theorem dL_isAsked_73 : decode cL_isAsked 73 = .ok (.aload_n 1, 1) := by decide +kernel
theorem dL_isAsked_74 : decode cL_isAsked 74 = .ok (.iload 6, 2) := by decide +kernel
theorem dL_isAsked_76 : decode cL_isAsked 76 = .ok (.iconst 1, 1) := by decide +kernel
theorem dL_isAsked_77 : decode cL_isAsked 77 = .ok (.iadd, 1) := by decide +kernel
theorem dL_isAsked_78 : decode cL_isAsked 78 = .ok (.iaload, 1) := by decide +kernel
theorem dL_isAsked_79 : decode cL_isAsked 79 = .ok (.if_icmp .gt 76, 3) := by decide +kernel
theorem dL_isAsked_82 : decode cL_isAsked 82 = .ok (.aload 4, 2) := by decide +kernel
theorem dL_isAsked_84 : decode cL_isAsked 84 = .ok (.iload 10, 2) := by decide +kernel
theorem dL_isAsked_86 : decode cL_isAsked 86 = .ok (.invokestatic 106, 3) := by decide +kernel
theorem dL_isAsked_89 : decode cL_isAsked 89 = .ok (.aload_n 3, 1) := by decide +kernel
theorem dL_isAsked_90 : decode cL_isAsked 90 = .ok (.aload 4, 2) := by decide +kernel
theorem dL_isAsked_92 : decode cL_isAsked 92 = .ok (.iload 10, 2) := by decide +kernel
theorem dL_isAsked_94 : decode cL_isAsked 94 = .ok (.invokestatic 103, 3) := by decide +kernel
theorem dL_isAsked_97 : decode cL_isAsked 97 = .ok (.isub, 1) := by decide +kernel
theorem dL_isAsked_98 : decode cL_isAsked 98 = .ok (.istore 11, 2) := by decide +kernel
theorem dL_isAsked_100 : decode cL_isAsked 100 = .ok (.iload 8, 2) := by decide +kernel
theorem dL_isAsked_102 : decode cL_isAsked 102 = .ok (.ifCond .ne 8, 3) := by decide +kernel
theorem dL_isAsked_105 : decode cL_isAsked 105 = .ok (.iload 11, 2) := by decide +kernel
theorem dL_isAsked_107 : decode cL_isAsked 107 = .ok (.ifCond .gt 7, 3) := by decide +kernel
theorem dL_isAsked_110 : decode cL_isAsked 110 = .ok (.iconst 1, 1) := by decide +kernel
theorem dL_isAsked_111 : decode cL_isAsked 111 = .ok (.goto 4, 3) := by decide +kernel
theorem dL_isAsked_114 : decode cL_isAsked 114 = .ok (.iconst 0, 1) := by decide +kernel
theorem dL_isAsked_115 : decode cL_isAsked 115 = .ok (.istore 8, 2) := by decide +kernel
theorem dL_isAsked_117 : decode cL_isAsked 117 = .ok (.iload 9, 2) := by decide +kernel
theorem dL_isAsked_119 : decode cL_isAsked 119 = .ok (.ifCond .ne 23, 3) := by decide +kernel
theorem dL_isAsked_122 : decode cL_isAsked 122 = .ok (.iload 11, 2) := by decide +kernel
theorem dL_isAsked_124 : decode cL_isAsked 124 = .ok (.aload_n 1, 1) := by decide +kernel
theorem dL_isAsked_125 : decode cL_isAsked 125 = .ok (.aload_n 2, 1) := by decide +kernel
theorem dL_isAsked_126 : decode cL_isAsked 126 = .ok (.aload 4, 2) := by decide +kernel
theorem dL_isAsked_128 : decode cL_isAsked 128 = .ok (.iload 10, 2) := by decide +kernel
theorem dL_isAsked_130 : decode cL_isAsked 130 = .ok (.aload_n 1, 1) := by decide +kernel
theorem dL_isAsked_131 : decode cL_isAsked 131 = .ok (.iload 6, 2) := by decide +kernel
theorem dL_isAsked_133 : decode cL_isAsked 133 = .ok (.iconst 2, 1) := by decide +kernel
theorem dL_isAsked_134 : decode cL_isAsked 134 = .ok (.iadd, 1) := by decide +kernel
theorem dL_isAsked_135 : decode cL_isAsked 135 = .ok (.iaload, 1) := by decide +kernel
theorem dL_isAsked_136 : decode cL_isAsked 136 = .ok (.invokestatic 109, 3) := by decide +kernel
theorem dL_isAsked_139 : decode cL_isAsked 139 = .ok (.if_icmp .gt 7, 3) := by decide +kernel
theorem dL_isAsked_142 : decode cL_isAsked 142 = .ok (.iconst 1, 1) := by decide +kernel
theorem dL_isAsked_143 : decode cL_isAsked 143 = .ok (.goto 4, 3) := by decide +kernel
theorem dL_isAsked_146 : decode cL_isAsked 146 = .ok (.iconst 0, 1) := by decide +kernel
theorem dL_isAsked_147 : decode cL_isAsked 147 = .ok (.istore 9, 2) := by decide +kernel
theorem dL_isAsked_149 : decode cL_isAsked 149 = .ok (.iinc 10 1, 3) := by decide +kernel
theorem dL_isAsked_152 : decode cL_isAsked 152 = .ok (.goto (-81), 3) := by decide +kernel
theorem dL_isAsked_155 : decode cL_isAsked 155 = .ok (.iload 7, 2) := by decide +kernel
theorem dL_isAsked_157 : decode cL_isAsked 157 = .ok (.ifCond .ge 99, 3) := by decide +kernel
theorem dL_isAsked_160 : decode cL_isAsked 160 = .ok (.iconst 0, 1) := by decide +kernel
theorem dL_isAsked_161 : decode cL_isAsked 161 = .ok (.istore 10, 2) := by decide +kernel
theorem dL_isAsked_163 : decode cL_isAsked 163 = .ok (.aload_n 1, 1) := by decide +kernel
theorem dL_isAsked_164 : decode cL_isAsked 164 = .ok (.iload 6, 2) := by decide +kernel
theorem dL_isAsked_166 : decode cL_isAsked 166 = .ok (.iaload, 1) := by decide +kernel
theorem dL_isAsked_167 : decode cL_isAsked 167 = .ok (.istore 11, 2) := by decide +kernel
theorem dL_isAsked_169 : decode cL_isAsked 169 = .ok (.iload 11, 2) := by decide +kernel
theorem dL_isAsked_171 : decode cL_isAsked 171 = .ok (.aload_n 1, 1) := by decide +kernel
theorem dL_isAsked_172 : decode cL_isAsked 172 = .ok (.iload 6, 2) := by decide +kernel
theorem dL_isAsked_174 : decode cL_isAsked 174 = .ok (.iconst 1, 1) := by decide +kernel
theorem dL_isAsked_175 : decode cL_isAsked 175 = .ok (.iadd, 1) := by decide +kernel
theorem dL_isAsked_176 : decode cL_isAsked 176 = .ok (.iaload, 1) := by decide +kernel
theorem dL_isAsked_177 : decode cL_isAsked 177 = .ok (.if_icmp .gt 20, 3) := by decide +kernel
theorem dL_isAsked_180 : decode cL_isAsked 180 = .ok (.iload 10, 2) := by decide +kernel
theorem dL_isAsked_182 : decode cL_isAsked 182 = .ok (.aload_n 0, 1) := by decide +kernel
theorem dL_isAsked_183 : decode cL_isAsked 183 = .ok (.iload 11, 2) := by decide +kernel
theorem dL_isAsked_185 : decode cL_isAsked 185 = .ok (.invokevirtual 60, 3) := by decide +kernel
theorem dL_isAsked_188 : decode cL_isAsked 188 = .ok (.iadd, 1) := by decide +kernel
theorem dL_isAsked_189 : decode cL_isAsked 189 = .ok (.istore 10, 2) := by decide +kernel
theorem dL_isAsked_191 : decode cL_isAsked 191 = .ok (.iinc 11 1, 3) := by decide +kernel
theorem dL_isAsked_194 : decode cL_isAsked 194 = .ok (.goto (-25), 3) := by decide +kernel
theorem dL_isAsked_197 : decode cL_isAsked 197 = .ok (.aload 4, 2) := by decide +kernel
theorem dL_isAsked_199 : decode cL_isAsked 199 = .ok (.bipush 6, 2) := by decide +kernel
theorem dL_isAsked_201 : decode cL_isAsked 201 = .ok (.iload 7, 2) := by decide +kernel
theorem dL_isAsked_203 : decode cL_isAsked 203 = .ok (.isub, 1) := by decide +kernel
theorem dL_isAsked_204 : decode cL_isAsked 204 = .ok (.dup2, 1) := by decide +kernel
theorem dL_isAsked_205 : decode cL_isAsked 205 = .ok (.iaload, 1) := by decide +kernel
theorem dL_isAsked_206 : decode cL_isAsked 206 = .ok (.iconst 1, 1) := by decide +kernel
theorem dL_isAsked_207 : decode cL_isAsked 207 = .ok (.iadd, 1) := by decide +kernel
theorem dL_isAsked_208 : decode cL_isAsked 208 = .ok (.iastore, 1) := by decide +kernel
theorem dL_isAsked_209 : decode cL_isAsked 209 = .ok (.iload 7, 2) := by decide +kernel
theorem dL_isAsked_211 : decode cL_isAsked 211 = .ok (.iload 8, 2) := by decide +kernel
theorem dL_isAsked_213 : decode cL_isAsked 213 = .ok (.ifCond .eq 7, 3) := by decide +kernel
theorem dL_isAsked_216 : decode cL_isAsked 216 = .ok (.iconst (-1), 1) := by decide +kernel
theorem dL_isAsked_217 : decode cL_isAsked 217 = .ok (.goto 30, 3) := by decide +kernel
theorem dL_isAsked_220 : decode cL_isAsked 220 = .ok (.iload 9, 2) := by decide +kernel
theorem dL_isAsked_222 : decode cL_isAsked 222 = .ok (.ifCond .eq 8, 3) := by decide +kernel
theorem dL_isAsked_225 : decode cL_isAsked 225 = .ok (.bipush (-2), 2) := by decide +kernel
theorem dL_isAsked_227 : decode cL_isAsked 227 = .ok (.goto 20, 3) := by decide +kernel
theorem dL_isAsked_230 : decode cL_isAsked 230 = .ok (.iload 10, 2) := by decide +kernel
theorem dL_isAsked_232 : decode cL_isAsked 232 = .ok (.aload_n 1, 1) := by decide +kernel
theorem dL_isAsked_233 : decode cL_isAsked 233 = .ok (.iload 6, 2) := by decide +kernel
theorem dL_isAsked_235 : decode cL_isAsked 235 = .ok (.iconst 2, 1) := by decide +kernel
theorem dL_isAsked_236 : decode cL_isAsked 236 = .ok (.iadd, 1) := by decide +kernel
theorem dL_isAsked_237 : decode cL_isAsked 237 = .ok (.iaload, 1) := by decide +kernel
theorem dL_isAsked_238 : decode cL_isAsked 238 = .ok (.if_icmp .le 8, 3) := by decide +kernel
theorem dL_isAsked_241 : decode cL_isAsked 241 = .ok (.bipush (-3), 2) := by decide +kernel
theorem dL_isAsked_243 : decode cL_isAsked 243 = .ok (.goto 4, 3) := by decide +kernel
theorem dL_isAsked_246 : decode cL_isAsked 246 = .ok (.iconst 0, 1) := by decide +kernel
theorem dL_isAsked_247 : decode cL_isAsked 247 = .ok (.if_icmp .ne 7, 3) := by decide +kernel
theorem dL_isAsked_250 : decode cL_isAsked 250 = .ok (.iconst 1, 1) := by decide +kernel
theorem dL_isAsked_251 : decode cL_isAsked 251 = .ok (.goto 4, 3) := by decide +kernel
theorem dL_isAsked_254 : decode cL_isAsked 254 = .ok (.iconst 0, 1) := by decide +kernel
theorem dL_isAsked_255 : decode cL_isAsked 255 = .ok (.ireturn, 1) := by decide +kernel
theorem dL_isAsked_256 : decode cL_isAsked 256 = .ok (.iload 8, 2) := by decide +kernel
theorem dL_isAsked_258 : decode cL_isAsked 258 = .ok (.ifCond .ne 22, 3) := by decide +kernel
theorem dL_isAsked_261 : decode cL_isAsked 261 = .ok (.iload 9, 2) := by decide +kernel
theorem dL_isAsked_263 : decode cL_isAsked 263 = .ok (.ifCond .ne 17, 3) := by decide +kernel
theorem dL_isAsked_266 : decode cL_isAsked 266 = .ok (.iload 7, 2) := by decide +kernel
theorem dL_isAsked_268 : decode cL_isAsked 268 = .ok (.aload 4, 2) := by decide +kernel
theorem dL_isAsked_270 : decode cL_isAsked 270 = .ok (.bipush 6, 2) := by decide +kernel
theorem dL_isAsked_272 : decode cL_isAsked 272 = .ok (.iaload, 1) := by decide +kernel
theorem dL_isAsked_273 : decode cL_isAsked 273 = .ok (.if_icmp .ne 7, 3) := by decide +kernel
theorem dL_isAsked_276 : decode cL_isAsked 276 = .ok (.iconst 1, 1) := by decide +kernel
theorem dL_isAsked_277 : decode cL_isAsked 277 = .ok (.goto 4, 3) := by decide +kernel
theorem dL_isAsked_280 : decode cL_isAsked 280 = .ok (.iconst 0, 1) := by decide +kernel
theorem dL_isAsked_281 : decode cL_isAsked 281 = .ok (.istore 10, 2) := by decide +kernel
theorem dL_isAsked_283 : decode cL_isAsked 283 = .ok (.aload_n 3, 1) := by decide +kernel
theorem dL_isAsked_284 : decode cL_isAsked 284 = .ok (.aload 4, 2) := by decide +kernel
theorem dL_isAsked_286 : decode cL_isAsked 286 = .ok (.aload_n 1, 1) := by decide +kernel
theorem dL_isAsked_287 : decode cL_isAsked 287 = .ok (.iload 6, 2) := by decide +kernel
theorem dL_isAsked_289 : decode cL_isAsked 289 = .ok (.iaload, 1) := by decide +kernel
theorem dL_isAsked_290 : decode cL_isAsked 290 = .ok (.aload_n 1, 1) := by decide +kernel
theorem dL_isAsked_291 : decode cL_isAsked 291 = .ok (.iload 6, 2) := by decide +kernel
theorem dL_isAsked_293 : decode cL_isAsked 293 = .ok (.iconst 1, 1) := by decide +kernel
theorem dL_isAsked_294 : decode cL_isAsked 294 = .ok (.iadd, 1) := by decide +kernel
theorem dL_isAsked_295 : decode cL_isAsked 295 = .ok (.iaload, 1) := by decide +kernel
theorem dL_isAsked_296 : decode cL_isAsked 296 = .ok (.iconst 1, 1) := by decide +kernel
theorem dL_isAsked_297 : decode cL_isAsked 297 = .ok (.aload_n 1, 1) := by decide +kernel
theorem dL_isAsked_298 : decode cL_isAsked 298 = .ok (.iload 6, 2) := by decide +kernel
theorem dL_isAsked_300 : decode cL_isAsked 300 = .ok (.iconst 2, 1) := by decide +kernel
theorem dL_isAsked_301 : decode cL_isAsked 301 = .ok (.iadd, 1) := by decide +kernel
theorem dL_isAsked_302 : decode cL_isAsked 302 = .ok (.iaload, 1) := by decide +kernel
theorem dL_isAsked_303 : decode cL_isAsked 303 = .ok (.invokestatic 117, 3) := by decide +kernel
theorem dL_isAsked_306 : decode cL_isAsked 306 = .ok (.iload 10, 2) := by decide +kernel
theorem dL_isAsked_308 : decode cL_isAsked 308 = .ok (.ireturn, 1) := by decide +kernel
set_option maxRecDepth 20000 in
theorem ggL_isGroup_L_does : GoodIn wsL_isGroup wsL_does := goodIn_ca (goodIn_ca (goodIn_ca (goodIn_r _ [4, 5, 6, 7, 8, 9, 3, 10, 11, 12, 13, 14, 15, 16, 17, 18, 19, 20, 21, 22, 23, 24, 25, 26, 27, 28, 29, 30, 31, 32, 33, 34, 35, 36, 37, 38, 39, 40, 41, 42, 43, 44, 45, 46, 47, 48, 49, 50, 51, 52, 53, 54, 55, 56, 57, 58, 59, 60, 61, 62, 63, 64, 65, 66, 67, 68, 69, 70, 71, 72, 73, 74, 75, 76, 77, 78, 79, 80, 81, 82, 83, 84, 85, 86, 87, 88, 89, 90, 91, 92, 93, 94, 95, 96, 97, 98, 99, 100, 101, 102, 103, 104, 105, 106, 107, 108, 109, 110, 111, 112, 113, 114, 115, 116, 117, 118, 119, 120, 121, 122, 123, 124, 125, 126, 127, 128, 129, 130, 131, 132, 133, 134, 135, 136, 137, 138, 139, 140, 141, 142, 143, 144, 145, 146, 147, 148, 149, 150, 151, 152, 153, 154, 155, 156, 157, 158, 159, 160, 161, 162, 163, 164, 165, 166, 167, 168, 169, 170, 171, 172, 173, 174, 175, 176, 177, 178, 179, 180, 181, 182, 183, 184, 185, 186, 187, 188, 189, 190, 191, 192, 193, 194, 195, 196, 197, 198, 199, 200, 201, 202, 203, 204, 205, 206, 207, 208, 209, 210, 211, 212, 213, 214, 215, 216, 217, 218, 219, 220, 221, 222, 223, 224, 225, 226, 227, 228, 229, 230, 231, 232, 233, 234, 235, 236, 237, 238, 239, 240, 241, 252, 253, 254, 255, 256, 257, 258, 259, 260, 261, 262, 263, 264, 265, 266, 267, 268, 269, 270, 271, 272, 273, 274, 275, 276, 277, 278, 279, 280, 281, 282, 283, 284, 285] (by decide +kernel) (by decide +kernel)) (goodIn_sub (fun _ h => List.mem_cons_of_mem _ (List.mem_append_left _ (List.mem_append_left _ (List.mem_append_right _ h)))) (by decide +kernel))) (goodIn_sub (fun _ h => List.mem_cons_of_mem _ (List.mem_append_left _ (List.mem_append_right _ h))) (by decide +kernel))) (goodIn_sub (fun _ h => List.mem_cons_of_mem _ (List.mem_append_right _ h)) (by decide +kernel))
set_option maxRecDepth 20000 in
theorem gL_isGroup_L_does : GoodIn wsL_isGroup (va_wsS RL 113 yL_does wsL_does) := goodIn_app (goodIn_of _ (by decide +kernel)) ggL_isGroup_L_does
set_option maxRecDepth 20000 in
theorem ggL_isGroup_L_booked : GoodIn wsL_isGroup wsL_booked := goodIn_r _ [244] (by decide +kernel) (by decide +kernel)
set_option maxRecDepth 20000 in
theorem gL_isGroup_L_booked : GoodIn wsL_isGroup (va_wsS RL 103 yL_booked wsL_booked) := goodIn_app (goodIn_of _ (by decide +kernel)) ggL_isGroup_L_booked
set_option maxRecDepth 20000 in
theorem ggL_isGroup_X5_displaced : GoodIn wsL_isGroup wsX5_displaced := goodIn_ca (goodIn_ca (goodIn_r _ [248, 30, 31, 16, 17, 39, 40, 14, 41, 18, 19, 20, 209, 210, 211, 212, 174, 175, 176, 177, 178, 165, 166, 167, 110, 111, 112, 113, 25, 90, 91, 92, 93, 82, 94, 95, 96, 97, 98, 99, 85, 100, 101, 102, 103, 104, 105, 213, 214, 215, 216, 139, 140, 141, 142, 143, 64, 144, 145, 146, 147, 148, 149, 150, 151, 152, 153, 154, 155, 156, 157, 158, 159, 160, 161, 37, 162, 163, 54, 55, 164, 168, 169, 170, 171, 172, 173, 179, 180, 181, 182, 183, 184, 185, 186, 187, 188, 189, 190, 191, 192, 193, 194, 195, 196, 252, 253, 254, 255, 256, 257, 258, 259, 260, 261, 262, 263, 264, 265, 273, 274, 275, 276, 277, 278, 279, 280, 281, 282, 283, 284, 285, 266, 267, 268, 269, 270, 271, 272] (by decide +kernel) (by decide +kernel)) (goodIn_sub (fun _ h => List.mem_cons_of_mem _ (List.mem_append_left _ (List.mem_append_right _ h))) (by decide +kernel))) (goodIn_sub (fun _ h => List.mem_cons_of_mem _ (List.mem_append_left _ (List.mem_append_left _ (List.mem_append_right _ h)))) (by decide +kernel))
set_option maxRecDepth 20000 in
theorem gL_isGroup_X5_displaced : GoodIn wsL_isGroup (wsV RL 63 RX5 yX5_displaced wsX5_displaced) := goodIn_app (goodIn_of _ (by decide +kernel)) ggL_isGroup_X5_displaced
set_option maxRecDepth 20000 in
theorem ggL_isGroup_L_books : GoodIn wsL_isGroup wsL_books := goodIn_r _ [251] (by decide +kernel) (by decide +kernel)
set_option maxRecDepth 20000 in
theorem gL_isGroup_L_books : GoodIn wsL_isGroup (va_wsS RL 117 yL_books wsL_books) := goodIn_app (goodIn_of _ (by decide +kernel)) ggL_isGroup_L_books
theorem dL_isGroup_0 : decode cL_isGroup 0 = .ok (.iload_n 3, 1) := by decide +kernel
theorem dL_isGroup_1 : decode cL_isGroup 1 = .ok (.iconst 3, 1) := by decide +kernel
theorem dL_isGroup_2 : decode cL_isGroup 2 = .ok (.if_icmp .ge 13, 3) := by decide +kernel
theorem dL_isGroup_5 : decode cL_isGroup 5 = .ok (.iload 4, 2) := by decide +kernel
theorem dL_isGroup_7 : decode cL_isGroup 7 = .ok (.iconst 3, 1) := by decide +kernel
theorem dL_isGroup_8 : decode cL_isGroup 8 = .ok (.if_icmp .ge 7, 3) := by decide +kernel
theorem dL_isGroup_11 : decode cL_isGroup 11 = .ok (.iconst 1, 1) := by decide +kernel
theorem dL_isGroup_12 : decode cL_isGroup 12 = .ok (.goto 4, 3) := by decide +kernel
theorem dL_isGroup_15 : decode cL_isGroup 15 = .ok (.iconst 0, 1) := by decide +kernel
theorem dL_isGroup_16 : decode cL_isGroup 16 = .ok (.istore 7, 2) := by decide +kernel
theorem dL_isGroup_18 : decode cL_isGroup 18 = .ok (.iload 4, 2) := by decide +kernel
theorem dL_isGroup_20 : decode cL_isGroup 20 = .ok (.iload_n 3, 1) := by decide +kernel
theorem dL_isGroup_21 : decode cL_isGroup 21 = .ok (.if_icmp .lt 32, 3) := by decide +kernel
theorem dL_isGroup_24 : decode cL_isGroup 24 = .ok (.iload 5, 2) := by decide +kernel
theorem dL_isGroup_26 : decode cL_isGroup 26 = .ok (.ifCond .le 27, 3) := by decide +kernel
theorem dL_isGroup_29 : decode cL_isGroup 29 = .ok (.iload 5, 2) := by decide +kernel
theorem dL_isGroup_31 : decode cL_isGroup 31 = .ok (.bipush 11, 2) := by decide +kernel
theorem dL_isGroup_33 : decode cL_isGroup 33 = .ok (.if_icmp .ge 20, 3) := by decide +kernel
theorem dL_isGroup_36 : decode cL_isGroup 36 = .ok (.iload 6, 2) := by decide +kernel
theorem dL_isGroup_38 : decode cL_isGroup 38 = .ok (.ifCond .le 15, 3) := by decide +kernel
theorem dL_isGroup_41 : decode cL_isGroup 41 = .ok (.iload 6, 2) := by decide +kernel
theorem dL_isGroup_43 : decode cL_isGroup 43 = .ok (.sipush 3001, 3) := by decide +kernel
theorem dL_isGroup_46 : decode cL_isGroup 46 = .ok (.if_icmp .ge 7, 3) := by decide +kernel
theorem dL_isGroup_49 : decode cL_isGroup 49 = .ok (.iconst 1, 1) := by decide +kernel
theorem dL_isGroup_50 : decode cL_isGroup 50 = .ok (.goto 4, 3) := by decide +kernel
theorem dL_isGroup_53 : decode cL_isGroup 53 = .ok (.iconst 0, 1) := by decide +kernel
theorem dL_isGroup_54 : decode cL_isGroup 54 = .ok (.istore 8, 2) := by decide +kernel
theorem dL_isGroup_56 : decode cL_isGroup 56 = .ok (.iload 7, 2) := by decide +kernel
theorem dL_isGroup_58 : decode cL_isGroup 58 = .ok (.ifCond .eq 8, 3) := by decide +kernel
theorem dL_isGroup_61 : decode cL_isGroup 61 = .ok (.iload 8, 2) := by decide +kernel
theorem dL_isGroup_63 : decode cL_isGroup 63 = .ok (.ifCond .ne 36, 3) := by decide +kernel
theorem dL_isGroup_66 : decode cL_isGroup 66 = .ok (.aload_n 0, 1) := by decide +kernel
theorem dL_isGroup_67 : decode cL_isGroup 67 = .ok (.iconst 5, 1) := by decide +kernel
theorem dL_isGroup_68 : decode cL_isGroup 68 = .ok (.iload_n 3, 1) := by decide +kernel
theorem dL_isGroup_69 : decode cL_isGroup 69 = .ok (.iload 4, 2) := by decide +kernel
theorem dL_isGroup_71 : decode cL_isGroup 71 = .ok (.iload 5, 2) := by decide +kernel
theorem dL_isGroup_73 : decode cL_isGroup 73 = .ok (.iload 6, 2) := by decide +kernel
theorem dL_isGroup_75 : decode cL_isGroup 75 = .ok (.invokestatic 113, 3) := by decide +kernel
theorem dL_isGroup_78 : decode cL_isGroup 78 = .ok (.iload 7, 2) := by decide +kernel
theorem dL_isGroup_80 : decode cL_isGroup 80 = .ok (.ifCond .eq 8, 3) := by decide +kernel
theorem dL_isGroup_83 : decode cL_isGroup 83 = .ok (.bipush (-20), 2) := by decide +kernel
theorem dL_isGroup_85 : decode cL_isGroup 85 = .ok (.goto 5, 3) := by decide +kernel
theorem dL_isGroup_88 : decode cL_isGroup 88 = .ok (.bipush (-30), 2) := by decide +kernel
theorem dL_isGroup_90 : decode cL_isGroup 90 = .ok (.if_icmp .ne 7, 3) := by decide +kernel
theorem dL_isGroup_93 : decode cL_isGroup 93 = .ok (.iconst 1, 1) := by decide +kernel
theorem dL_isGroup_94 : decode cL_isGroup 94 = .ok (.goto 4, 3) := by decide +kernel
theorem dL_isGroup_97 : decode cL_isGroup 97 = .ok (.iconst 0, 1) := by decide +kernel
theorem dL_isGroup_98 : decode cL_isGroup 98 = .ok (.ireturn, 1) := by decide +kernel
theorem dL_isGroup_99 : decode cL_isGroup 99 = .ok (.iconst 0, 1) := by decide +kernel
theorem dL_isGroup_100 : decode cL_isGroup 100 = .ok (.istore 9, 2) := by decide +kernel
theorem dL_isGroup_102 : decode cL_isGroup 102 = .ok (.iload_n 3, 1) := by decide +kernel
theorem dL_isGroup_103 : decode cL_isGroup 103 = .ok (.istore 10, 2) := by decide +kernel
theorem dL_isGroup_105 : decode cL_isGroup 105 = .ok (.iload 10, 2) := by decide +kernel
theorem dL_isGroup_107 : decode cL_isGroup 107 = .ok (.iload 4, 2) := by decide +kernel
theorem dL_isGroup_109 : decode cL_isGroup 109 = .ok (.if_icmp .gt 38, 3) := by decide +kernel
theorem dL_isGroup_112 : decode cL_isGroup 112 = .ok (.iload 9, 2) := by decide +kernel
theorem dL_isGroup_114 : decode cL_isGroup 114 = .ok (.ifCond .ne 20, 3) := by decide +kernel
theorem dL_isGroup_117 : decode cL_isGroup 117 = .ok (.aload_n 2, 1) := by decide +kernel
theorem dL_isGroup_118 : decode cL_isGroup 118 = .ok (.iload 10, 2) := by decide +kernel
theorem dL_isGroup_120 : decode cL_isGroup 120 = .ok (.iaload, 1) := by decide +kernel
theorem dL_isGroup_121 : decode cL_isGroup 121 = .ok (.aload_n 1, 1) := by decide +kernel
theorem dL_isGroup_122 : decode cL_isGroup 122 = .ok (.aload_n 2, 1) := by decide +kernel
theorem dL_isGroup_123 : decode cL_isGroup 123 = .ok (.iload 10, 2) := by decide +kernel
theorem dL_isGroup_125 : decode cL_isGroup 125 = .ok (.invokestatic 103, 3) := by decide +kernel
theorem dL_isGroup_128 : decode cL_isGroup 128 = .ok (.isub, 1) := by decide +kernel
theorem dL_isGroup_129 : decode cL_isGroup 129 = .ok (.iload 5, 2) := by decide +kernel
theorem dL_isGroup_131 : decode cL_isGroup 131 = .ok (.if_icmp .ge 7, 3) := by decide +kernel
theorem dL_isGroup_134 : decode cL_isGroup 134 = .ok (.iconst 1, 1) := by decide +kernel
theorem dL_isGroup_135 : decode cL_isGroup 135 = .ok (.goto 4, 3) := by decide +kernel
theorem dL_isGroup_138 : decode cL_isGroup 138 = .ok (.iconst 0, 1) := by decide +kernel
theorem dL_isGroup_139 : decode cL_isGroup 139 = .ok (.istore 9, 2) := by decide +kernel
theorem dL_isGroup_141 : decode cL_isGroup 141 = .ok (.iinc 10 1, 3) := by decide +kernel
theorem dL_isGroup_144 : decode cL_isGroup 144 = .ok (.goto (-39), 3) := by decide +kernel
theorem dL_isGroup_147 : decode cL_isGroup 147 = .ok (.aload_n 0, 1) := by decide +kernel
theorem dL_isGroup_148 : decode cL_isGroup 148 = .ok (.iload_n 3, 1) := by decide +kernel
theorem dL_isGroup_149 : decode cL_isGroup 149 = .ok (.iload 4, 2) := by decide +kernel
theorem dL_isGroup_151 : decode cL_isGroup 151 = .ok (.iload 5, 2) := by decide +kernel
theorem dL_isGroup_153 : decode cL_isGroup 153 = .ok (.invokevirtual 63, 3) := by decide +kernel
theorem dL_isGroup_156 : decode cL_isGroup 156 = .ok (.istore 10, 2) := by decide +kernel
theorem dL_isGroup_158 : decode cL_isGroup 158 = .ok (.aload_n 0, 1) := by decide +kernel
theorem dL_isGroup_159 : decode cL_isGroup 159 = .ok (.iconst 5, 1) := by decide +kernel
theorem dL_isGroup_160 : decode cL_isGroup 160 = .ok (.iload_n 3, 1) := by decide +kernel
theorem dL_isGroup_161 : decode cL_isGroup 161 = .ok (.iload 4, 2) := by decide +kernel
theorem dL_isGroup_163 : decode cL_isGroup 163 = .ok (.iload 5, 2) := by decide +kernel
theorem dL_isGroup_165 : decode cL_isGroup 165 = .ok (.iload 6, 2) := by decide +kernel
theorem dL_isGroup_167 : decode cL_isGroup 167 = .ok (.invokestatic 113, 3) := by decide +kernel
theorem dL_isGroup_170 : decode cL_isGroup 170 = .ok (.istore 11, 2) := by decide +kernel
theorem dL_isGroup_172 : decode cL_isGroup 172 = .ok (.iload 11, 2) := by decide +kernel
theorem dL_isGroup_174 : decode cL_isGroup 174 = .ok (.ifCond .ge 17, 3) := by decide +kernel
theorem dL_isGroup_177 : decode cL_isGroup 177 = .ok (.aload_n 2, 1) := by decide +kernel
theorem dL_isGroup_178 : decode cL_isGroup 178 = .ok (.bipush 6, 2) := by decide +kernel
theorem dL_isGroup_180 : decode cL_isGroup 180 = .ok (.iload 11, 2) := by decide +kernel
theorem dL_isGroup_182 : decode cL_isGroup 182 = .ok (.isub, 1) := by decide +kernel
theorem dL_isGroup_183 : decode cL_isGroup 183 = .ok (.dup2, 1) := by decide +kernel
theorem dL_isGroup_184 : decode cL_isGroup 184 = .ok (.iaload, 1) := by decide +kernel
theorem dL_isGroup_185 : decode cL_isGroup 185 = .ok (.iconst 1, 1) := by decide +kernel
theorem dL_isGroup_186 : decode cL_isGroup 186 = .ok (.iadd, 1) := by decide +kernel
theorem dL_isGroup_187 : decode cL_isGroup 187 = .ok (.iastore, 1) := by decide +kernel
theorem dL_isGroup_188 : decode cL_isGroup 188 = .ok (.goto 18, 3) := by decide +kernel
theorem dL_isGroup_191 : decode cL_isGroup 191 = .ok (.aload_n 1, 1) := by decide +kernel
theorem dL_isGroup_192 : decode cL_isGroup 192 = .ok (.aload_n 2, 1) := by decide +kernel
theorem dL_isGroup_193 : decode cL_isGroup 193 = .ok (.iload_n 3, 1) := by decide +kernel
theorem dL_isGroup_194 : decode cL_isGroup 194 = .ok (.iload 4, 2) := by decide +kernel
theorem dL_isGroup_196 : decode cL_isGroup 196 = .ok (.iload 5, 2) := by decide +kernel
theorem dL_isGroup_198 : decode cL_isGroup 198 = .ok (.iload 6, 2) := by decide +kernel
theorem dL_isGroup_200 : decode cL_isGroup 200 = .ok (.iload 5, 2) := by decide +kernel
theorem dL_isGroup_202 : decode cL_isGroup 202 = .ok (.imul, 1) := by decide +kernel
theorem dL_isGroup_203 : decode cL_isGroup 203 = .ok (.invokestatic 117, 3) := by decide +kernel
theorem dL_isGroup_206 : decode cL_isGroup 206 = .ok (.iload 9, 2) := by decide +kernel
theorem dL_isGroup_208 : decode cL_isGroup 208 = .ok (.ifCond .eq 23, 3) := by decide +kernel
theorem dL_isGroup_211 : decode cL_isGroup 211 = .ok (.iload 10, 2) := by decide +kernel
theorem dL_isGroup_213 : decode cL_isGroup 213 = .ok (.iconst (-1), 1) := by decide +kernel
theorem dL_isGroup_214 : decode cL_isGroup 214 = .ok (.if_icmp .ne 13, 3) := by decide +kernel
theorem dL_isGroup_217 : decode cL_isGroup 217 = .ok (.iload 11, 2) := by decide +kernel
theorem dL_isGroup_219 : decode cL_isGroup 219 = .ok (.iconst (-1), 1) := by decide +kernel
theorem dL_isGroup_220 : decode cL_isGroup 220 = .ok (.if_icmp .ne 7, 3) := by decide +kernel
theorem dL_isGroup_223 : decode cL_isGroup 223 = .ok (.iconst 1, 1) := by decide +kernel
theorem dL_isGroup_224 : decode cL_isGroup 224 = .ok (.goto 43, 3) := by decide +kernel
theorem dL_isGroup_227 : decode cL_isGroup 227 = .ok (.iconst 0, 1) := by decide +kernel
theorem dL_isGroup_228 : decode cL_isGroup 228 = .ok (.goto 39, 3) := by decide +kernel
theorem dL_isGroup_231 : decode cL_isGroup 231 = .ok (.iload 10, 2) := by decide +kernel
theorem dL_isGroup_233 : decode cL_isGroup 233 = .ok (.ifCond .lt 33, 3) := by decide +kernel
theorem dL_isGroup_236 : decode cL_isGroup 236 = .ok (.iload 11, 2) := by decide +kernel
theorem dL_isGroup_238 : decode cL_isGroup 238 = .ok (.iload 6, 2) := by decide +kernel
theorem dL_isGroup_240 : decode cL_isGroup 240 = .ok (.iload 5, 2) := by decide +kernel
theorem dL_isGroup_242 : decode cL_isGroup 242 = .ok (.imul, 1) := by decide +kernel
theorem dL_isGroup_243 : decode cL_isGroup 243 = .ok (.iload 10, 2) := by decide +kernel
theorem dL_isGroup_245 : decode cL_isGroup 245 = .ok (.if_icmp .ge 8, 3) := by decide +kernel
theorem dL_isGroup_248 : decode cL_isGroup 248 = .ok (.bipush (-3), 2) := by decide +kernel
theorem dL_isGroup_250 : decode cL_isGroup 250 = .ok (.goto 9, 3) := by decide +kernel
theorem dL_isGroup_253 : decode cL_isGroup 253 = .ok (.aload_n 2, 1) := by decide +kernel
theorem dL_isGroup_254 : decode cL_isGroup 254 = .ok (.bipush 6, 2) := by decide +kernel
theorem dL_isGroup_256 : decode cL_isGroup 256 = .ok (.iaload, 1) := by decide +kernel
theorem dL_isGroup_257 : decode cL_isGroup 257 = .ok (.iconst 1, 1) := by decide +kernel
theorem dL_isGroup_258 : decode cL_isGroup 258 = .ok (.isub, 1) := by decide +kernel
theorem dL_isGroup_259 : decode cL_isGroup 259 = .ok (.if_icmp .ne 7, 3) := by decide +kernel
theorem dL_isGroup_262 : decode cL_isGroup 262 = .ok (.iconst 1, 1) := by decide +kernel
theorem dL_isGroup_263 : decode cL_isGroup 263 = .ok (.goto 4, 3) := by decide +kernel
theorem dL_isGroup_266 : decode cL_isGroup 266 = .ok (.iconst 0, 1) := by decide +kernel
theorem dL_isGroup_267 : decode cL_isGroup 267 = .ok (.ireturn, 1) := by decide +kernel
set_option maxRecDepth 20000 in
theorem ggL_isEnd_L_booked : GoodIn wsL_isEnd wsL_booked := goodIn_r _ [4] (by decide +kernel) (by decide +kernel)
set_option maxRecDepth 20000 in
theorem gL_isEnd_L_booked : GoodIn wsL_isEnd (va_wsS RL 103 yL_booked wsL_booked) := goodIn_app (goodIn_of _ (by decide +kernel)) ggL_isEnd_L_booked
set_option maxRecDepth 20000 in
theorem ggL_isEnd_L_does : GoodIn wsL_isEnd wsL_does := goodIn_ca (goodIn_ca (goodIn_ca (goodIn_r _ [7, 8, 9, 10, 11, 12, 3, 13, 14, 15, 16, 17, 18, 19, 20, 21, 22, 23, 24, 25, 26, 27, 28, 29, 30, 31, 32, 33, 34, 35, 36, 37, 38, 39, 40, 41, 42, 43, 44, 45, 46, 47, 48, 49, 50, 51, 52, 53, 54, 55, 56, 57, 58, 59, 60, 61, 62, 63, 64, 65, 66, 67, 68, 69, 70, 71, 72, 73, 74, 75, 76, 77, 78, 79, 80, 81, 82, 83, 84, 85, 86, 87, 88, 89, 90, 91, 92, 93, 94, 95, 96, 97, 98, 99, 100, 101, 102, 103, 104, 105, 106, 107, 108, 109, 110, 111, 112, 113, 114, 115, 116, 117, 118, 119, 120, 121, 122, 123, 124, 125, 126, 127, 128, 129, 130, 131, 132, 133, 134, 135, 136, 137, 138, 139, 140, 141, 142, 143, 144, 145, 146, 147, 148, 149, 150, 151, 152, 153, 154, 155, 156, 157, 158, 159, 160, 161, 162, 163, 164, 165, 166, 167, 168, 169, 170, 171, 172, 173, 174, 175, 176, 177, 178, 179, 180, 181, 182, 183, 184, 185, 186, 187, 188, 189, 190, 191, 192, 193, 194, 195, 196, 197, 198, 199, 200, 201, 202, 203, 204, 205, 206, 207, 208, 209, 210, 211, 212, 213, 214, 215, 216, 217, 218, 219, 220, 221, 222, 223, 224, 225, 226, 227, 228, 229, 230, 231, 232, 233, 234, 235, 236, 237, 238, 239, 240, 241, 242, 243, 244, 245, 246, 247, 248, 249, 250, 251, 252, 253, 254, 255, 256, 257, 258, 259, 260, 261, 262, 263, 264, 265, 266, 267, 268, 269, 270, 271, 272, 273, 274, 275, 276, 277, 278] (by decide +kernel) (by decide +kernel)) (goodIn_sub (fun _ h => List.mem_cons_of_mem _ (List.mem_append_left _ (List.mem_append_left _ (List.mem_append_right _ h)))) (by decide +kernel))) (goodIn_sub (fun _ h => List.mem_cons_of_mem _ (List.mem_append_left _ (List.mem_append_right _ h))) (by decide +kernel))) (goodIn_sub (fun _ h => List.mem_cons_of_mem _ (List.mem_append_right _ h)) (by decide +kernel))
set_option maxRecDepth 20000 in
theorem gL_isEnd_L_does : GoodIn wsL_isEnd (va_wsS RL 113 yL_does wsL_does) := goodIn_app (goodIn_of _ (by decide +kernel)) ggL_isEnd_L_does
theorem dL_isEnd_0 : decode cL_isEnd 0 = .ok (.iconst 0, 1) := by decide +kernel
theorem dL_isEnd_1 : decode cL_isEnd 1 = .ok (.istore 6, 2) := by decide +kernel
theorem dL_isEnd_3 : decode cL_isEnd 3 = .ok (.iconst 0, 1) := by decide +kernel
theorem dL_isEnd_4 : decode cL_isEnd 4 = .ok (.istore 7, 2) := by decide +kernel
theorem dL_isEnd_6 : decode cL_isEnd 6 = .ok (.iload 7, 2) := by decide +kernel
theorem dL_isEnd_8 : decode cL_isEnd 8 = .ok (.iconst 3, 1) := by decide +kernel
theorem dL_isEnd_9 : decode cL_isEnd 9 = .ok (.if_icmp .ge 70, 3) := by decide +kernel
theorem dL_isEnd_12 : decode cL_isEnd 12 = .ok (.aload_n 3, 1) := by decide +kernel
theorem dL_isEnd_13 : decode cL_isEnd 13 = .ok (.aload 4, 2) := by decide +kernel
theorem dL_isEnd_15 : decode cL_isEnd 15 = .ok (.iload 7, 2) := by decide +kernel
theorem dL_isEnd_17 : decode cL_isEnd 17 = .ok (.invokestatic 103, 3) := by decide +kernel
theorem dL_isEnd_20 : decode cL_isEnd 20 = .ok (.iload 5, 2) := by decide +kernel
theorem dL_isEnd_22 : decode cL_isEnd 22 = .ok (.imul, 1) := by decide +kernel
theorem dL_isEnd_23 : decode cL_isEnd 23 = .ok (.istore 8, 2) := by decide +kernel
theorem dL_isEnd_25 : decode cL_isEnd 25 = .ok (.iload 8, 2) := by decide +kernel
theorem dL_isEnd_27 : decode cL_isEnd 27 = .ok (.bipush 100, 2) := by decide +kernel
theorem dL_isEnd_29 : decode cL_isEnd 29 = .ok (.idiv, 1) := by decide +kernel
theorem dL_isEnd_30 : decode cL_isEnd 30 = .ok (.iload 8, 2) := by decide +kernel
theorem dL_isEnd_32 : decode cL_isEnd 32 = .ok (.bipush 100, 2) := by decide +kernel
theorem dL_isEnd_34 : decode cL_isEnd 34 = .ok (.irem, 1) := by decide +kernel
theorem dL_isEnd_35 : decode cL_isEnd 35 = .ok (.ifCond .le 7, 3) := by decide +kernel
theorem dL_isEnd_38 : decode cL_isEnd 38 = .ok (.iconst 1, 1) := by decide +kernel
theorem dL_isEnd_39 : decode cL_isEnd 39 = .ok (.goto 4, 3) := by decide +kernel
theorem dL_isEnd_42 : decode cL_isEnd 42 = .ok (.iconst 0, 1) := by decide +kernel
theorem dL_isEnd_43 : decode cL_isEnd 43 = .ok (.iadd, 1) := by decide +kernel
theorem dL_isEnd_44 : decode cL_isEnd 44 = .ok (.istore 8, 2) := by decide +kernel
theorem dL_isEnd_46 : decode cL_isEnd 46 = .ok (.iload 6, 2) := by decide +kernel
theorem dL_isEnd_48 : decode cL_isEnd 48 = .ok (.iload 8, 2) := by decide +kernel
theorem dL_isEnd_50 : decode cL_isEnd 50 = .ok (.aload 4, 2) := by decide +kernel
theorem dL_isEnd_52 : decode cL_isEnd 52 = .ok (.iload 7, 2) := by decide +kernel
theorem dL_isEnd_54 : decode cL_isEnd 54 = .ok (.iaload, 1) := by decide +kernel
theorem dL_isEnd_55 : decode cL_isEnd 55 = .ok (.if_icmp .le 14, 3) := by decide +kernel
theorem dL_isEnd_58 : decode cL_isEnd 58 = .ok (.iload 8, 2) := by decide +kernel
theorem dL_isEnd_60 : decode cL_isEnd 60 = .ok (.aload 4, 2) := by decide +kernel
theorem dL_isEnd_62 : decode cL_isEnd 62 = .ok (.iload 7, 2) := by decide +kernel
theorem dL_isEnd_64 : decode cL_isEnd 64 = .ok (.iaload, 1) := by decide +kernel
theorem dL_isEnd_65 : decode cL_isEnd 65 = .ok (.isub, 1) := by decide +kernel
theorem dL_isEnd_66 : decode cL_isEnd 66 = .ok (.goto 4, 3) := by decide +kernel
theorem dL_isEnd_69 : decode cL_isEnd 69 = .ok (.iconst 0, 1) := by decide +kernel
theorem dL_isEnd_70 : decode cL_isEnd 70 = .ok (.iadd, 1) := by decide +kernel
theorem dL_isEnd_71 : decode cL_isEnd 71 = .ok (.istore 6, 2) := by decide +kernel
theorem dL_isEnd_73 : decode cL_isEnd 73 = .ok (.iinc 7 1, 3) := by decide +kernel
theorem dL_isEnd_76 : decode cL_isEnd 76 = .ok (.goto (-70), 3) := by decide +kernel
theorem dL_isEnd_79 : decode cL_isEnd 79 = .ok (.iconst 0, 1) := by decide +kernel
theorem dL_isEnd_80 : decode cL_isEnd 80 = .ok (.istore 7, 2) := by decide +kernel
theorem dL_isEnd_82 : decode cL_isEnd 82 = .ok (.iload 7, 2) := by decide +kernel
theorem dL_isEnd_84 : decode cL_isEnd 84 = .ok (.aload 4, 2) := by decide +kernel
theorem dL_isEnd_86 : decode cL_isEnd 86 = .ok (.bipush 6, 2) := by decide +kernel
theorem dL_isEnd_88 : decode cL_isEnd 88 = .ok (.iaload, 1) := by decide +kernel
theorem dL_isEnd_89 : decode cL_isEnd 89 = .ok (.if_icmp .ge 24, 3) := by decide +kernel
theorem dL_isEnd_92 : decode cL_isEnd 92 = .ok (.aload 4, 2) := by decide +kernel
theorem dL_isEnd_94 : decode cL_isEnd 94 = .ok (.bipush 10, 2) := by decide +kernel
theorem dL_isEnd_96 : decode cL_isEnd 96 = .ok (.dup2, 1) := by decide +kernel
theorem dL_isEnd_97 : decode cL_isEnd 97 = .ok (.iaload, 1) := by decide +kernel
theorem dL_isEnd_98 : decode cL_isEnd 98 = .ok (.aload_n 3, 1) := by decide +kernel
theorem dL_isEnd_99 : decode cL_isEnd 99 = .ok (.bipush 20, 2) := by decide +kernel
theorem dL_isEnd_101 : decode cL_isEnd 101 = .ok (.iload 7, 2) := by decide +kernel
theorem dL_isEnd_103 : decode cL_isEnd 103 = .ok (.iadd, 1) := by decide +kernel
theorem dL_isEnd_104 : decode cL_isEnd 104 = .ok (.iaload, 1) := by decide +kernel
theorem dL_isEnd_105 : decode cL_isEnd 105 = .ok (.iadd, 1) := by decide +kernel
theorem dL_isEnd_106 : decode cL_isEnd 106 = .ok (.iastore, 1) := by decide +kernel
theorem dL_isEnd_107 : decode cL_isEnd 107 = .ok (.iinc 7 1, 3) := by decide +kernel
theorem dL_isEnd_110 : decode cL_isEnd 110 = .ok (.goto (-28), 3) := by decide +kernel
theorem dL_isEnd_113 : decode cL_isEnd 113 = .ok (.aload 4, 2) := by decide +kernel
theorem dL_isEnd_115 : decode cL_isEnd 115 = .ok (.bipush 10, 2) := by decide +kernel
theorem dL_isEnd_117 : decode cL_isEnd 117 = .ok (.dup2, 1) := by decide +kernel
theorem dL_isEnd_118 : decode cL_isEnd 118 = .ok (.iaload, 1) := by decide +kernel
theorem dL_isEnd_119 : decode cL_isEnd 119 = .ok (.bipush 100, 2) := by decide +kernel
theorem dL_isEnd_121 : decode cL_isEnd 121 = .ok (.iload 6, 2) := by decide +kernel
theorem dL_isEnd_123 : decode cL_isEnd 123 = .ok (.imul, 1) := by decide +kernel
theorem dL_isEnd_124 : decode cL_isEnd 124 = .ok (.isub, 1) := by decide +kernel
theorem dL_isEnd_125 : decode cL_isEnd 125 = .ok (.iastore, 1) := by decide +kernel
theorem dL_isEnd_126 : decode cL_isEnd 126 = .ok (.iconst 0, 1) := by decide +kernel
theorem dL_isEnd_127 : decode cL_isEnd 127 = .ok (.istore 7, 2) := by decide +kernel
theorem dL_isEnd_129 : decode cL_isEnd 129 = .ok (.iload 7, 2) := by decide +kernel
theorem dL_isEnd_131 : decode cL_isEnd 131 = .ok (.aload 4, 2) := by decide +kernel
theorem dL_isEnd_133 : decode cL_isEnd 133 = .ok (.iconst 4, 1) := by decide +kernel
theorem dL_isEnd_134 : decode cL_isEnd 134 = .ok (.iaload, 1) := by decide +kernel
theorem dL_isEnd_135 : decode cL_isEnd 135 = .ok (.if_icmp .ge 86, 3) := by decide +kernel
theorem dL_isEnd_138 : decode cL_isEnd 138 = .ok (.aload_n 2, 1) := by decide +kernel
theorem dL_isEnd_139 : decode cL_isEnd 139 = .ok (.bipush 10, 2) := by decide +kernel
theorem dL_isEnd_141 : decode cL_isEnd 141 = .ok (.iload 7, 2) := by decide +kernel
theorem dL_isEnd_143 : decode cL_isEnd 143 = .ok (.imul, 1) := by decide +kernel
theorem dL_isEnd_144 : decode cL_isEnd 144 = .ok (.aload 4, 2) := by decide +kernel
theorem dL_isEnd_146 : decode cL_isEnd 146 = .ok (.iconst 5, 1) := by decide +kernel
theorem dL_isEnd_147 : decode cL_isEnd 147 = .ok (.iaload, 1) := by decide +kernel
theorem dL_isEnd_148 : decode cL_isEnd 148 = .ok (.iadd, 1) := by decide +kernel
theorem dL_isEnd_149 : decode cL_isEnd 149 = .ok (.aload_n 1, 1) := by decide +kernel
theorem dL_isEnd_150 : decode cL_isEnd 150 = .ok (.bipush 6, 2) := by decide +kernel
theorem dL_isEnd_152 : decode cL_isEnd 152 = .ok (.iload 7, 2) := by decide +kernel
theorem dL_isEnd_154 : decode cL_isEnd 154 = .ok (.imul, 1) := by decide +kernel
theorem dL_isEnd_155 : decode cL_isEnd 155 = .ok (.iconst 4, 1) := by decide +kernel
theorem dL_isEnd_156 : decode cL_isEnd 156 = .ok (.iadd, 1) := by decide +kernel
theorem dL_isEnd_157 : decode cL_isEnd 157 = .ok (.iaload, 1) := by decide +kernel
theorem dL_isEnd_158 : decode cL_isEnd 158 = .ok (.iastore, 1) := by decide +kernel
theorem dL_isEnd_159 : decode cL_isEnd 159 = .ok (.aload_n 1, 1) := by decide +kernel
theorem dL_isEnd_160 : decode cL_isEnd 160 = .ok (.bipush 6, 2) := by decide +kernel
theorem dL_isEnd_162 : decode cL_isEnd 162 = .ok (.iload 7, 2) := by decide +kernel
theorem dL_isEnd_164 : decode cL_isEnd 164 = .ok (.imul, 1) := by decide +kernel
theorem dL_isEnd_165 : decode cL_isEnd 165 = .ok (.iconst 5, 1) := by decide +kernel
theorem dL_isEnd_166 : decode cL_isEnd 166 = .ok (.iadd, 1) := by decide +kernel
theorem dL_isEnd_167 : decode cL_isEnd 167 = .ok (.dup2, 1) := by decide +kernel
theorem dL_isEnd_168 : decode cL_isEnd 168 = .ok (.iaload, 1) := by decide +kernel
theorem dL_isEnd_169 : decode cL_isEnd 169 = .ok (.aload_n 1, 1) := by decide +kernel
theorem dL_isEnd_170 : decode cL_isEnd 170 = .ok (.bipush 6, 2) := by decide +kernel
theorem dL_isEnd_172 : decode cL_isEnd 172 = .ok (.iload 7, 2) := by decide +kernel
theorem dL_isEnd_174 : decode cL_isEnd 174 = .ok (.imul, 1) := by decide +kernel
theorem dL_isEnd_175 : decode cL_isEnd 175 = .ok (.iconst 4, 1) := by decide +kernel
theorem dL_isEnd_176 : decode cL_isEnd 176 = .ok (.iadd, 1) := by decide +kernel
theorem dL_isEnd_177 : decode cL_isEnd 177 = .ok (.iaload, 1) := by decide +kernel
theorem dL_isEnd_178 : decode cL_isEnd 178 = .ok (.iadd, 1) := by decide +kernel
theorem dL_isEnd_179 : decode cL_isEnd 179 = .ok (.iastore, 1) := by decide +kernel
theorem dL_isEnd_180 : decode cL_isEnd 180 = .ok (.aload_n 1, 1) := by decide +kernel
theorem dL_isEnd_181 : decode cL_isEnd 181 = .ok (.bipush 6, 2) := by decide +kernel
theorem dL_isEnd_183 : decode cL_isEnd 183 = .ok (.iload 7, 2) := by decide +kernel
theorem dL_isEnd_185 : decode cL_isEnd 185 = .ok (.imul, 1) := by decide +kernel
theorem dL_isEnd_186 : decode cL_isEnd 186 = .ok (.iconst 3, 1) := by decide +kernel
theorem dL_isEnd_187 : decode cL_isEnd 187 = .ok (.iadd, 1) := by decide +kernel
theorem dL_isEnd_188 : decode cL_isEnd 188 = .ok (.aload_n 1, 1) := by decide +kernel
theorem dL_isEnd_189 : decode cL_isEnd 189 = .ok (.bipush 6, 2) := by decide +kernel
theorem dL_isEnd_191 : decode cL_isEnd 191 = .ok (.iload 7, 2) := by decide +kernel
theorem dL_isEnd_193 : decode cL_isEnd 193 = .ok (.imul, 1) := by decide +kernel
theorem dL_isEnd_194 : decode cL_isEnd 194 = .ok (.iconst 5, 1) := by decide +kernel
theorem dL_isEnd_195 : decode cL_isEnd 195 = .ok (.iadd, 1) := by decide +kernel
theorem dL_isEnd_196 : decode cL_isEnd 196 = .ok (.iaload, 1) := by decide +kernel
theorem dL_isEnd_197 : decode cL_isEnd 197 = .ok (.aload 4, 2) := by decide +kernel
theorem dL_isEnd_199 : decode cL_isEnd 199 = .ok (.iconst 5, 1) := by decide +kernel
theorem dL_isEnd_200 : decode cL_isEnd 200 = .ok (.iaload, 1) := by decide +kernel
theorem dL_isEnd_201 : decode cL_isEnd 201 = .ok (.iconst 1, 1) := by decide +kernel
theorem dL_isEnd_202 : decode cL_isEnd 202 = .ok (.iadd, 1) := by decide +kernel
theorem dL_isEnd_203 : decode cL_isEnd 203 = .ok (.idiv, 1) := by decide +kernel
theorem dL_isEnd_204 : decode cL_isEnd 204 = .ok (.iastore, 1) := by decide +kernel
theorem dL_isEnd_205 : decode cL_isEnd 205 = .ok (.aload_n 1, 1) := by decide +kernel
theorem dL_isEnd_206 : decode cL_isEnd 206 = .ok (.bipush 6, 2) := by decide +kernel
theorem dL_isEnd_208 : decode cL_isEnd 208 = .ok (.iload 7, 2) := by decide +kernel
theorem dL_isEnd_210 : decode cL_isEnd 210 = .ok (.imul, 1) := by decide +kernel
theorem dL_isEnd_211 : decode cL_isEnd 211 = .ok (.iconst 4, 1) := by decide +kernel
theorem dL_isEnd_212 : decode cL_isEnd 212 = .ok (.iadd, 1) := by decide +kernel
theorem dL_isEnd_213 : decode cL_isEnd 213 = .ok (.iconst 0, 1) := by decide +kernel
theorem dL_isEnd_214 : decode cL_isEnd 214 = .ok (.iastore, 1) := by decide +kernel
theorem dL_isEnd_215 : decode cL_isEnd 215 = .ok (.iinc 7 1, 3) := by decide +kernel
theorem dL_isEnd_218 : decode cL_isEnd 218 = .ok (.goto (-89), 3) := by decide +kernel
theorem dL_isEnd_221 : decode cL_isEnd 221 = .ok (.aload 4, 2) := by decide +kernel
theorem dL_isEnd_223 : decode cL_isEnd 223 = .ok (.iconst 5, 1) := by decide +kernel
theorem dL_isEnd_224 : decode cL_isEnd 224 = .ok (.dup2, 1) := by decide +kernel
theorem dL_isEnd_225 : decode cL_isEnd 225 = .ok (.iaload, 1) := by decide +kernel
theorem dL_isEnd_226 : decode cL_isEnd 226 = .ok (.iconst 1, 1) := by decide +kernel
theorem dL_isEnd_227 : decode cL_isEnd 227 = .ok (.iadd, 1) := by decide +kernel
theorem dL_isEnd_228 : decode cL_isEnd 228 = .ok (.iastore, 1) := by decide +kernel
theorem dL_isEnd_229 : decode cL_isEnd 229 = .ok (.aload 4, 2) := by decide +kernel
theorem dL_isEnd_231 : decode cL_isEnd 231 = .ok (.bipush 6, 2) := by decide +kernel
theorem dL_isEnd_233 : decode cL_isEnd 233 = .ok (.iconst 0, 1) := by decide +kernel
theorem dL_isEnd_234 : decode cL_isEnd 234 = .ok (.iastore, 1) := by decide +kernel
theorem dL_isEnd_235 : decode cL_isEnd 235 = .ok (.aload_n 0, 1) := by decide +kernel
theorem dL_isEnd_236 : decode cL_isEnd 236 = .ok (.bipush 7, 2) := by decide +kernel
theorem dL_isEnd_238 : decode cL_isEnd 238 = .ok (.iload 5, 2) := by decide +kernel
theorem dL_isEnd_240 : decode cL_isEnd 240 = .ok (.iconst 0, 1) := by decide +kernel
theorem dL_isEnd_241 : decode cL_isEnd 241 = .ok (.iconst 0, 1) := by decide +kernel
theorem dL_isEnd_242 : decode cL_isEnd 242 = .ok (.iconst 0, 1) := by decide +kernel
theorem dL_isEnd_243 : decode cL_isEnd 243 = .ok (.invokestatic 113, 3) := by decide +kernel
theorem dL_isEnd_246 : decode cL_isEnd 246 = .ok (.iload 6, 2) := by decide +kernel
theorem dL_isEnd_248 : decode cL_isEnd 248 = .ok (.if_icmp .ne 7, 3) := by decide +kernel
theorem dL_isEnd_251 : decode cL_isEnd 251 = .ok (.iconst 1, 1) := by decide +kernel
theorem dL_isEnd_252 : decode cL_isEnd 252 = .ok (.goto 4, 3) := by decide +kernel
theorem dL_isEnd_255 : decode cL_isEnd 255 = .ok (.iconst 0, 1) := by decide +kernel
theorem dL_isEnd_256 : decode cL_isEnd 256 = .ok (.ireturn, 1) := by decide +kernel
set_option maxRecDepth 20000 in
theorem ggL_isDone_L_part : GoodIn wsL_isDone wsL_part := goodIn_r _ [4, 5] (by decide +kernel) (by decide +kernel)
set_option maxRecDepth 20000 in
theorem gL_isDone_L_part : GoodIn wsL_isDone (va_wsS RL 121 yL_part wsL_part) := goodIn_app (goodIn_of _ (by decide +kernel)) ggL_isDone_L_part
set_option maxRecDepth 20000 in
theorem ggL_isDone_L_does : GoodIn wsL_isDone wsL_does := goodIn_ca (goodIn_ca (goodIn_ca (goodIn_r _ [8, 9, 10, 11, 12, 13, 3, 14, 15, 16, 17, 18, 19, 20, 21, 22, 23, 24, 25, 26, 27, 28, 29, 30, 31, 32, 33, 34, 35, 36, 37, 38, 39, 40, 41, 42, 43, 44, 45, 46, 47, 48, 49, 50, 51, 52, 53, 54, 55, 56, 57, 58, 59, 60, 61, 62, 63, 64, 65, 66, 67, 68, 69, 70, 71, 72, 73, 74, 75, 76, 77, 78, 79, 80, 81, 82, 83, 84, 85, 86, 87, 88, 89, 90, 91, 92, 93, 94, 95, 96, 97, 98, 99, 100, 101, 102, 103, 104, 105, 106, 107, 108, 109, 110, 111, 112, 113, 114, 115, 116, 117, 118, 119, 120, 121, 122, 123, 124, 125, 126, 127, 128, 129, 130, 131, 132, 133, 134, 135, 136, 137, 138, 139, 140, 141, 142, 143, 144, 145, 146, 147, 148, 149, 150, 151, 152, 153, 154, 155, 156, 157, 158, 159, 160, 161, 162, 163, 164, 165, 166, 167, 168, 169, 170, 171, 172, 173, 174, 175, 176, 177, 178, 179, 180, 181, 182, 183, 184, 185, 186, 187, 188, 189, 190, 191, 192, 193, 194, 195, 196, 197, 198, 199, 200, 201, 202, 203, 204, 205, 206, 207, 208, 209, 210, 211, 212, 213, 214, 215, 216, 217, 218, 219, 220, 221, 222, 223, 224, 225, 226, 227, 228, 229, 230, 231, 232, 233, 234, 235, 236, 237, 238, 239, 240, 241, 242, 243, 244, 245, 282, 283, 284, 285, 286, 287, 288, 289, 290, 291, 292, 293, 294, 295, 296, 297, 298, 299, 300, 301, 302, 303, 304, 305, 306, 307, 308, 309, 310, 311, 312, 313, 314, 315] (by decide +kernel) (by decide +kernel)) (goodIn_sub (fun _ h => List.mem_cons_of_mem _ (List.mem_append_left _ (List.mem_append_left _ (List.mem_append_right _ h)))) (by decide +kernel))) (goodIn_sub (fun _ h => List.mem_cons_of_mem _ (List.mem_append_left _ (List.mem_append_right _ h))) (by decide +kernel))) (goodIn_sub (fun _ h => List.mem_cons_of_mem _ (List.mem_append_right _ h)) (by decide +kernel))
set_option maxRecDepth 20000 in
theorem gL_isDone_L_does : GoodIn wsL_isDone (va_wsS RL 113 yL_does wsL_does) := goodIn_app (goodIn_of _ (by decide +kernel)) ggL_isDone_L_does
set_option maxRecDepth 20000 in
theorem ggL_isDone_L_isProduct : GoodIn wsL_isDone wsL_isProduct := goodIn_ca (goodIn_ca (goodIn_ca (goodIn_r _ [248, 249, 250, 251, 18, 252, 38, 6, 7, 3, 8, 9, 10, 11, 12, 13, 14, 15, 16, 17, 19, 20, 21, 22, 23, 24, 25, 26, 27, 28, 29, 30, 31, 32, 33, 34, 35, 36, 37, 39, 40, 41, 42, 43, 44, 45, 46, 47, 48, 49, 50, 51, 52, 53, 54, 55, 56, 57, 58, 59, 60, 61, 62, 63, 64, 65, 66, 67, 68, 69, 70, 71, 72, 73, 74, 75, 76, 77, 78, 79, 80, 81, 82, 83, 84, 85, 86, 87, 88, 89, 90, 91, 92, 93, 94, 95, 96, 97, 98, 99, 100, 101, 102, 103, 104, 105, 106, 107, 108, 109, 110, 111, 112, 113, 114, 115, 116, 117, 118, 119, 120, 121, 122, 123, 124, 125, 126, 127, 128, 129, 130, 131, 132, 133, 134, 135, 136, 137, 138, 139, 140, 141, 142, 143, 144, 145, 146, 147, 148, 149, 150, 151, 152, 153, 154, 155, 156, 157, 158, 159, 160, 161, 162, 163, 164, 165, 166, 167, 168, 169, 170, 171, 172, 173, 174, 175, 176, 177, 178, 179, 180, 181, 182, 183, 184, 185, 186, 187, 188, 189, 190, 191, 192, 193, 194, 195, 196, 197, 198, 199, 200, 201, 202, 203, 204, 205, 206, 207, 208, 209, 210, 211, 212, 213, 214, 215, 216, 217, 218, 219, 220, 221, 222, 223, 224, 225, 226, 227, 228, 229, 230, 231, 232, 233, 234, 235, 236, 237, 238, 239, 240, 241, 242, 243, 244, 245, 282, 283, 284, 285, 286, 287, 288, 289, 290, 291, 292, 293, 294, 295, 296, 297, 298, 299, 300, 301, 302, 303, 304, 305, 306, 307, 308, 309, 310, 311, 312, 313, 314, 315] (by decide +kernel) (by decide +kernel)) (goodIn_sub (fun _ h => List.mem_cons_of_mem _ (List.mem_append_left _ (List.mem_append_left _ (List.mem_append_right _ h)))) (by decide +kernel))) (goodIn_sub (fun _ h => List.mem_cons_of_mem _ (List.mem_append_left _ (List.mem_append_right _ h))) (by decide +kernel))) (goodIn_sub (fun _ h => List.mem_cons_of_mem _ (List.mem_append_right _ h)) (by decide +kernel))
set_option maxRecDepth 20000 in
theorem gL_isDone_L_isProduct : GoodIn wsL_isDone (va_wsS RL 125 yL_isProduct wsL_isProduct) := goodIn_app (goodIn_of _ (by decide +kernel)) ggL_isDone_L_isProduct
set_option maxRecDepth 20000 in
theorem ggL_isDone_L_isAsked : GoodIn wsL_isDone wsL_isAsked := goodIn_ca (goodIn_ca (goodIn_ca (goodIn_r _ [255, 6, 7, 3, 8, 9, 10, 11, 12, 13, 14, 15, 16, 17, 18, 19, 20, 21, 22, 23, 24, 25, 26, 27, 28, 29, 30, 31, 32, 33, 34, 35, 36, 37, 38, 39, 40, 41, 42, 43, 44, 45, 46, 47, 48, 49, 50, 51, 52, 53, 54, 55, 56, 57, 58, 59, 60, 61, 62, 63, 64, 65, 66, 67, 68, 69, 70, 71, 72, 73, 74, 75, 76, 77, 78, 79, 80, 81, 82, 83, 84, 85, 86, 87, 88, 89, 90, 91, 92, 93, 94, 95, 96, 97, 98, 99, 100, 101, 102, 103, 104, 105, 106, 107, 108, 109, 110, 111, 112, 113, 114, 115, 116, 117, 118, 119, 120, 121, 122, 123, 124, 125, 126, 127, 128, 129, 130, 131, 132, 133, 134, 135, 136, 137, 138, 139, 140, 141, 142, 143, 144, 145, 146, 147, 148, 149, 150, 151, 152, 153, 154, 155, 156, 157, 158, 159, 160, 161, 162, 163, 164, 165, 166, 167, 168, 169, 170, 171, 172, 173, 174, 175, 176, 177, 178, 179, 180, 181, 182, 183, 184, 185, 186, 187, 188, 189, 190, 191, 192, 193, 194, 195, 196, 197, 198, 199, 200, 201, 202, 203, 204, 205, 206, 207, 208, 209, 210, 211, 212, 213, 214, 215, 216, 217, 218, 219, 220, 221, 222, 223, 224, 225, 226, 227, 228, 229, 230, 231, 232, 233, 234, 235, 236, 237, 238, 239, 240, 241, 242, 243, 244, 245, 256, 257, 258, 259, 260, 261, 262, 263, 264, 265, 266, 267, 268, 269, 270, 271, 282, 283, 284, 285, 286, 287, 288, 289, 290, 291, 292, 293, 294, 295, 296, 297, 298, 299, 300, 301, 302, 303, 304, 305, 306, 307, 308, 309, 310, 311, 312, 313, 314, 315] (by decide +kernel) (by decide +kernel)) (goodIn_sub (fun _ h => List.mem_cons_of_mem _ (List.mem_append_left _ (List.mem_append_left _ (List.mem_append_right _ h)))) (by decide +kernel))) (goodIn_sub (fun _ h => List.mem_cons_of_mem _ (List.mem_append_left _ (List.mem_append_right _ h))) (by decide +kernel))) (goodIn_sub (fun _ h => List.mem_cons_of_mem _ (List.mem_append_right _ h)) (by decide +kernel))
set_option maxRecDepth 20000 in
theorem gL_isDone_L_isAsked : GoodIn wsL_isDone (va_wsS RL 129 yL_isAsked wsL_isAsked) := goodIn_app (goodIn_of _ (by decide +kernel)) ggL_isDone_L_isAsked
set_option maxRecDepth 20000 in
theorem ggL_isDone_L_isGroup : GoodIn wsL_isDone wsL_isGroup := goodIn_ca (goodIn_ca (goodIn_ca (goodIn_r _ [274, 6, 7, 3, 8, 9, 10, 11, 12, 13, 14, 15, 16, 17, 18, 19, 20, 21, 22, 23, 24, 25, 26, 27, 28, 29, 30, 31, 32, 33, 34, 35, 36, 37, 38, 39, 40, 41, 42, 43, 44, 45, 46, 47, 48, 49, 50, 51, 52, 53, 54, 55, 56, 57, 58, 59, 60, 61, 62, 63, 64, 65, 66, 67, 68, 69, 70, 71, 72, 73, 74, 75, 76, 77, 78, 79, 80, 81, 82, 83, 84, 85, 86, 87, 88, 89, 90, 91, 92, 93, 94, 95, 96, 97, 98, 99, 100, 101, 102, 103, 104, 105, 106, 107, 108, 109, 110, 111, 112, 113, 114, 115, 116, 117, 118, 119, 120, 121, 122, 123, 124, 125, 126, 127, 128, 129, 130, 131, 132, 133, 134, 135, 136, 137, 138, 139, 140, 141, 142, 143, 144, 145, 146, 147, 148, 149, 150, 151, 152, 153, 154, 155, 156, 157, 158, 159, 160, 161, 162, 163, 164, 165, 166, 167, 168, 169, 170, 171, 172, 173, 174, 175, 176, 177, 178, 179, 180, 181, 182, 183, 184, 185, 186, 187, 188, 189, 190, 191, 192, 193, 194, 195, 196, 197, 198, 199, 200, 201, 202, 203, 204, 205, 206, 207, 208, 209, 210, 211, 212, 213, 214, 215, 216, 217, 218, 219, 220, 221, 222, 223, 224, 225, 226, 227, 228, 229, 230, 231, 232, 233, 234, 235, 236, 237, 238, 239, 240, 241, 242, 243, 244, 245, 259, 260, 261, 275, 276, 277, 278, 269, 270, 271, 282, 283, 284, 285, 286, 287, 288, 289, 290, 291, 292, 293, 294, 295, 296, 297, 298, 299, 300, 301, 302, 303, 304, 305, 306, 307, 308, 309, 310, 311, 312, 313, 314, 315] (by decide +kernel) (by decide +kernel)) (goodIn_sub (fun _ h => List.mem_cons_of_mem _ (List.mem_append_left _ (List.mem_append_left _ (List.mem_append_right _ h)))) (by decide +kernel))) (goodIn_sub (fun _ h => List.mem_cons_of_mem _ (List.mem_append_left _ (List.mem_append_right _ h))) (by decide +kernel))) (goodIn_sub (fun _ h => List.mem_cons_of_mem _ (List.mem_append_right _ h)) (by decide +kernel))
set_option maxRecDepth 20000 in
theorem gL_isDone_L_isGroup : GoodIn wsL_isDone (va_wsS RL 133 yL_isGroup wsL_isGroup) := goodIn_app (goodIn_of _ (by decide +kernel)) ggL_isDone_L_isGroup
set_option maxRecDepth 20000 in
theorem ggL_isDone_L_isEnd : GoodIn wsL_isDone wsL_isEnd := goodIn_ca (goodIn_ca (goodIn_ca (goodIn_r _ [281, 259, 260, 3, 261, 6, 7, 8, 9, 10, 11, 12, 13, 14, 15, 16, 17, 18, 19, 20, 21, 22, 23, 24, 25, 26, 27, 28, 29, 30, 31, 32, 33, 34, 35, 36, 37, 38, 39, 40, 41, 42, 43, 44, 45, 46, 47, 48, 49, 50, 51, 52, 53, 54, 55, 56, 57, 58, 59, 60, 61, 62, 63, 64, 65, 66, 67, 68, 69, 70, 71, 72, 73, 74, 75, 76, 77, 78, 79, 80, 81, 82, 83, 84, 85, 86, 87, 88, 89, 90, 91, 92, 93, 94, 95, 96, 97, 98, 99, 100, 101, 102, 103, 104, 105, 106, 107, 108, 109, 110, 111, 112, 113, 114, 115, 116, 117, 118, 119, 120, 121, 122, 123, 124, 125, 126, 127, 128, 129, 130, 131, 132, 133, 134, 135, 136, 137, 138, 139, 140, 141, 142, 143, 144, 145, 146, 147, 148, 149, 150, 151, 152, 153, 154, 155, 156, 157, 158, 159, 160, 161, 162, 163, 164, 165, 166, 167, 168, 169, 170, 171, 172, 173, 174, 175, 176, 177, 178, 179, 180, 181, 182, 183, 184, 185, 186, 187, 188, 189, 190, 191, 192, 193, 194, 195, 196, 197, 198, 199, 200, 201, 202, 203, 204, 205, 206, 207, 208, 209, 210, 211, 212, 213, 214, 215, 216, 217, 218, 219, 220, 221, 222, 223, 224, 225, 226, 227, 228, 229, 230, 231, 232, 233, 234, 235, 236, 237, 238, 239, 240, 241, 242, 243, 244, 245, 282, 283, 284, 285, 286, 287, 288, 289, 290, 291, 292, 293, 294, 295, 296, 297, 298, 299, 300, 301, 302, 303, 304, 305, 306, 307, 308, 309, 310, 311, 312, 313, 314, 315] (by decide +kernel) (by decide +kernel)) (goodIn_sub (fun _ h => List.mem_cons_of_mem _ (List.mem_append_left _ (List.mem_append_left _ (List.mem_append_right _ h)))) (by decide +kernel))) (goodIn_sub (fun _ h => List.mem_cons_of_mem _ (List.mem_append_left _ (List.mem_append_right _ h))) (by decide +kernel))) (goodIn_sub (fun _ h => List.mem_cons_of_mem _ (List.mem_append_right _ h)) (by decide +kernel))
set_option maxRecDepth 20000 in
theorem gL_isDone_L_isEnd : GoodIn wsL_isDone (va_wsS RL 137 yL_isEnd wsL_isEnd) := goodIn_app (goodIn_of _ (by decide +kernel)) ggL_isDone_L_isEnd
theorem dL_isDone_0 : decode cL_isDone 0 = .ok (.aload_n 1, 1) := by decide +kernel
theorem dL_isDone_1 : decode cL_isDone 1 = .ok (.iload_n 2, 1) := by decide +kernel
theorem dL_isDone_2 : decode cL_isDone 2 = .ok (.bipush 40, 2) := by decide +kernel
theorem dL_isDone_4 : decode cL_isDone 4 = .ok (.invokestatic 121, 3) := by decide +kernel
theorem dL_isDone_7 : decode cL_isDone 7 = .ok (.istore 7, 2) := by decide +kernel
theorem dL_isDone_9 : decode cL_isDone 9 = .ok (.aload_n 1, 1) := by decide +kernel
theorem dL_isDone_10 : decode cL_isDone 10 = .ok (.iload_n 2, 1) := by decide +kernel
theorem dL_isDone_11 : decode cL_isDone 11 = .ok (.iconst 1, 1) := by decide +kernel
theorem dL_isDone_12 : decode cL_isDone 12 = .ok (.iadd, 1) := by decide +kernel
theorem dL_isDone_13 : decode cL_isDone 13 = .ok (.sipush 6000, 3) := by decide +kernel
theorem dL_isDone_16 : decode cL_isDone 16 = .ok (.invokestatic 121, 3) := by decide +kernel
theorem dL_isDone_19 : decode cL_isDone 19 = .ok (.istore 8, 2) := by decide +kernel
theorem dL_isDone_21 : decode cL_isDone 21 = .ok (.aload_n 1, 1) := by decide +kernel
theorem dL_isDone_22 : decode cL_isDone 22 = .ok (.iload_n 2, 1) := by decide +kernel
theorem dL_isDone_23 : decode cL_isDone 23 = .ok (.iconst 2, 1) := by decide +kernel
theorem dL_isDone_24 : decode cL_isDone 24 = .ok (.iadd, 1) := by decide +kernel
theorem dL_isDone_25 : decode cL_isDone 25 = .ok (.sipush 7000, 3) := by decide +kernel
theorem dL_isDone_28 : decode cL_isDone 28 = .ok (.invokestatic 121, 3) := by decide +kernel
theorem dL_isDone_31 : decode cL_isDone 31 = .ok (.istore 9, 2) := by decide +kernel
theorem dL_isDone_33 : decode cL_isDone 33 = .ok (.aload_n 1, 1) := by decide +kernel
theorem dL_isDone_34 : decode cL_isDone 34 = .ok (.iload_n 2, 1) := by decide +kernel
theorem dL_isDone_35 : decode cL_isDone 35 = .ok (.iconst 3, 1) := by decide +kernel
theorem dL_isDone_36 : decode cL_isDone 36 = .ok (.iadd, 1) := by decide +kernel
theorem dL_isDone_37 : decode cL_isDone 37 = .ok (.sipush 8000, 3) := by decide +kernel
theorem dL_isDone_40 : decode cL_isDone 40 = .ok (.invokestatic 121, 3) := by decide +kernel
theorem dL_isDone_43 : decode cL_isDone 43 = .ok (.istore 10, 2) := by decide +kernel
theorem dL_isDone_45 : decode cL_isDone 45 = .ok (.iload 7, 2) := by decide +kernel
theorem dL_isDone_47 : decode cL_isDone 47 = .ok (.iconst 3, 1) := by decide +kernel
theorem dL_isDone_48 : decode cL_isDone 48 = .ok (.if_icmp .ge 135, 3) := by decide +kernel
theorem dL_isDone_51 : decode cL_isDone 51 = .ok (.iload 10, 2) := by decide +kernel
theorem dL_isDone_53 : decode cL_isDone 53 = .ok (.bipush 25, 2) := by decide +kernel
theorem dL_isDone_55 : decode cL_isDone 55 = .ok (.irem, 1) := by decide +kernel
theorem dL_isDone_56 : decode cL_isDone 56 = .ok (.ifCond .ne 8, 3) := by decide +kernel
theorem dL_isDone_59 : decode cL_isDone 59 = .ok (.bipush 11, 2) := by decide +kernel
theorem dL_isDone_61 : decode cL_isDone 61 = .ok (.goto 8, 3) := by decide +kernel
theorem dL_isDone_64 : decode cL_isDone 64 = .ok (.iload 10, 2) := by decide +kernel
theorem dL_isDone_66 : decode cL_isDone 66 = .ok (.bipush 7, 2) := by decide +kernel
theorem dL_isDone_68 : decode cL_isDone 68 = .ok (.irem, 1) := by decide +kernel
theorem dL_isDone_69 : decode cL_isDone 69 = .ok (.istore 11, 2) := by decide +kernel
theorem dL_isDone_71 : decode cL_isDone 71 = .ok (.iload 11, 2) := by decide +kernel
theorem dL_isDone_73 : decode cL_isDone 73 = .ok (.bipush 11, 2) := by decide +kernel
theorem dL_isDone_75 : decode cL_isDone 75 = .ok (.if_icmp .ge 7, 3) := by decide +kernel
theorem dL_isDone_78 : decode cL_isDone 78 = .ok (.iconst 1, 1) := by decide +kernel
theorem dL_isDone_79 : decode cL_isDone 79 = .ok (.goto 4, 3) := by decide +kernel
theorem dL_isDone_82 : decode cL_isDone 82 = .ok (.iconst 0, 1) := by decide +kernel
theorem dL_isDone_83 : decode cL_isDone 83 = .ok (.istore 12, 2) := by decide +kernel
theorem dL_isDone_85 : decode cL_isDone 85 = .ok (.aload 6, 2) := by decide +kernel
theorem dL_isDone_87 : decode cL_isDone 87 = .ok (.iconst 0, 1) := by decide +kernel
theorem dL_isDone_88 : decode cL_isDone 88 = .ok (.iload 12, 2) := by decide +kernel
theorem dL_isDone_90 : decode cL_isDone 90 = .ok (.ifCond .eq 11, 3) := by decide +kernel
theorem dL_isDone_93 : decode cL_isDone 93 = .ok (.iload 8, 2) := by decide +kernel
theorem dL_isDone_95 : decode cL_isDone 95 = .ok (.bipush 7, 2) := by decide +kernel
theorem dL_isDone_97 : decode cL_isDone 97 = .ok (.irem, 1) := by decide +kernel
theorem dL_isDone_98 : decode cL_isDone 98 = .ok (.goto 7, 3) := by decide +kernel
theorem dL_isDone_101 : decode cL_isDone 101 = .ok (.aload 6, 2) := by decide +kernel
theorem dL_isDone_103 : decode cL_isDone 103 = .ok (.iconst 0, 1) := by decide +kernel
theorem dL_isDone_104 : decode cL_isDone 104 = .ok (.iaload, 1) := by decide +kernel
theorem dL_isDone_105 : decode cL_isDone 105 = .ok (.iastore, 1) := by decide +kernel
theorem dL_isDone_106 : decode cL_isDone 106 = .ok (.aload 6, 2) := by decide +kernel
theorem dL_isDone_108 : decode cL_isDone 108 = .ok (.iconst 1, 1) := by decide +kernel
theorem dL_isDone_109 : decode cL_isDone 109 = .ok (.iload 12, 2) := by decide +kernel
theorem dL_isDone_111 : decode cL_isDone 111 = .ok (.ifCond .eq 11, 3) := by decide +kernel
theorem dL_isDone_114 : decode cL_isDone 114 = .ok (.iload 9, 2) := by decide +kernel
theorem dL_isDone_116 : decode cL_isDone 116 = .ok (.bipush 8, 2) := by decide +kernel
theorem dL_isDone_118 : decode cL_isDone 118 = .ok (.irem, 1) := by decide +kernel
theorem dL_isDone_119 : decode cL_isDone 119 = .ok (.goto 7, 3) := by decide +kernel
theorem dL_isDone_122 : decode cL_isDone 122 = .ok (.aload 6, 2) := by decide +kernel
theorem dL_isDone_124 : decode cL_isDone 124 = .ok (.iconst 1, 1) := by decide +kernel
theorem dL_isDone_125 : decode cL_isDone 125 = .ok (.iaload, 1) := by decide +kernel
theorem dL_isDone_126 : decode cL_isDone 126 = .ok (.iastore, 1) := by decide +kernel
theorem dL_isDone_127 : decode cL_isDone 127 = .ok (.aload 6, 2) := by decide +kernel
theorem dL_isDone_129 : decode cL_isDone 129 = .ok (.iconst 2, 1) := by decide +kernel
theorem dL_isDone_130 : decode cL_isDone 130 = .ok (.iload 12, 2) := by decide +kernel
theorem dL_isDone_132 : decode cL_isDone 132 = .ok (.ifCond .eq 8, 3) := by decide +kernel
theorem dL_isDone_135 : decode cL_isDone 135 = .ok (.iload 11, 2) := by decide +kernel
theorem dL_isDone_137 : decode cL_isDone 137 = .ok (.goto 7, 3) := by decide +kernel
theorem dL_isDone_140 : decode cL_isDone 140 = .ok (.aload 6, 2) := by decide +kernel
theorem dL_isDone_142 : decode cL_isDone 142 = .ok (.iconst 2, 1) := by decide +kernel
theorem dL_isDone_143 : decode cL_isDone 143 = .ok (.iaload, 1) := by decide +kernel
theorem dL_isDone_144 : decode cL_isDone 144 = .ok (.iastore, 1) := by decide +kernel
theorem dL_isDone_145 : decode cL_isDone 145 = .ok (.aload_n 0, 1) := by decide +kernel
theorem dL_isDone_146 : decode cL_isDone 146 = .ok (.iconst 0, 1) := by decide +kernel
theorem dL_isDone_147 : decode cL_isDone 147 = .ok (.iload 8, 2) := by decide +kernel
theorem dL_isDone_149 : decode cL_isDone 149 = .ok (.bipush 7, 2) := by decide +kernel
theorem dL_isDone_151 : decode cL_isDone 151 = .ok (.irem, 1) := by decide +kernel
theorem dL_isDone_152 : decode cL_isDone 152 = .ok (.iload 9, 2) := by decide +kernel
theorem dL_isDone_154 : decode cL_isDone 154 = .ok (.bipush 8, 2) := by decide +kernel
theorem dL_isDone_156 : decode cL_isDone 156 = .ok (.irem, 1) := by decide +kernel
theorem dL_isDone_157 : decode cL_isDone 157 = .ok (.iload 11, 2) := by decide +kernel
theorem dL_isDone_159 : decode cL_isDone 159 = .ok (.iconst 0, 1) := by decide +kernel
theorem dL_isDone_160 : decode cL_isDone 160 = .ok (.invokestatic 113, 3) := by decide +kernel
theorem dL_isDone_163 : decode cL_isDone 163 = .ok (.iload 12, 2) := by decide +kernel
theorem dL_isDone_165 : decode cL_isDone 165 = .ok (.ifCond .eq 7, 3) := by decide +kernel
theorem dL_isDone_168 : decode cL_isDone 168 = .ok (.iconst 0, 1) := by decide +kernel
theorem dL_isDone_169 : decode cL_isDone 169 = .ok (.goto 5, 3) := by decide +kernel
theorem dL_isDone_172 : decode cL_isDone 172 = .ok (.bipush (-20), 2) := by decide +kernel
theorem dL_isDone_174 : decode cL_isDone 174 = .ok (.if_icmp .ne 7, 3) := by decide +kernel
theorem dL_isDone_177 : decode cL_isDone 177 = .ok (.iconst 1, 1) := by decide +kernel
theorem dL_isDone_178 : decode cL_isDone 178 = .ok (.goto 4, 3) := by decide +kernel
theorem dL_isDone_181 : decode cL_isDone 181 = .ok (.iconst 0, 1) := by decide +kernel
theorem dL_isDone_182 : decode cL_isDone 182 = .ok (.ireturn, 1) := by decide +kernel
theorem dL_isDone_183 : decode cL_isDone 183 = .ok (.iload 7, 2) := by decide +kernel
theorem dL_isDone_185 : decode cL_isDone 185 = .ok (.bipush 10, 2) := by decide +kernel
theorem dL_isDone_187 : decode cL_isDone 187 = .ok (.if_icmp .ge 19, 3) := by decide +kernel
theorem dL_isDone_190 : decode cL_isDone 190 = .ok (.aload_n 0, 1) := by decide +kernel
theorem dL_isDone_191 : decode cL_isDone 191 = .ok (.aload_n 3, 1) := by decide +kernel
theorem dL_isDone_192 : decode cL_isDone 192 = .ok (.aload 4, 2) := by decide +kernel
theorem dL_isDone_194 : decode cL_isDone 194 = .ok (.aload 6, 2) := by decide +kernel
theorem dL_isDone_196 : decode cL_isDone 196 = .ok (.iload 8, 2) := by decide +kernel
theorem dL_isDone_198 : decode cL_isDone 198 = .ok (.iload 9, 2) := by decide +kernel
theorem dL_isDone_200 : decode cL_isDone 200 = .ok (.iload 10, 2) := by decide +kernel
theorem dL_isDone_202 : decode cL_isDone 202 = .ok (.invokestatic 125, 3) := by decide +kernel
theorem dL_isDone_205 : decode cL_isDone 205 = .ok (.ireturn, 1) := by decide +kernel
theorem dL_isDone_206 : decode cL_isDone 206 = .ok (.iload 7, 2) := by decide +kernel
theorem dL_isDone_208 : decode cL_isDone 208 = .ok (.bipush 14, 2) := by decide +kernel
theorem dL_isDone_210 : decode cL_isDone 210 = .ok (.if_icmp .ge 109, 3) := by decide +kernel
theorem dL_isDone_213 : decode cL_isDone 213 = .ok (.iload 8, 2) := by decide +kernel
theorem dL_isDone_215 : decode cL_isDone 215 = .ok (.aload 6, 2) := by decide +kernel
theorem dL_isDone_217 : decode cL_isDone 217 = .ok (.iconst 4, 1) := by decide +kernel
theorem dL_isDone_218 : decode cL_isDone 218 = .ok (.iaload, 1) := by decide +kernel
theorem dL_isDone_219 : decode cL_isDone 219 = .ok (.iconst 1, 1) := by decide +kernel
theorem dL_isDone_220 : decode cL_isDone 220 = .ok (.iadd, 1) := by decide +kernel
theorem dL_isDone_221 : decode cL_isDone 221 = .ok (.irem, 1) := by decide +kernel
theorem dL_isDone_222 : decode cL_isDone 222 = .ok (.istore 11, 2) := by decide +kernel
theorem dL_isDone_224 : decode cL_isDone 224 = .ok (.iload 9, 2) := by decide +kernel
theorem dL_isDone_226 : decode cL_isDone 226 = .ok (.bipush 30, 2) := by decide +kernel
