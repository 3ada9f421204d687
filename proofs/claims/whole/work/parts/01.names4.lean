theorem dX6_init_89 : decode cX6_init 89 = .ok (.aload_n 0, 1) := by decide +kernel
theorem dX6_init_90 : decode cX6_init 90 = .ok (.bipush 60, 2) := by decide +kernel
theorem dX6_init_92 : decode cX6_init 92 = .ok (.newarray .int, 2) := by decide +kernel
theorem dX6_init_94 : decode cX6_init 94 = .ok (.putfield 45, 3) := by decide +kernel
theorem dX6_init_97 : decode cX6_init 97 = .ok (.aload_n 0, 1) := by decide +kernel
theorem dX6_init_98 : decode cX6_init 98 = .ok (.bipush 60, 2) := by decide +kernel
theorem dX6_init_100 : decode cX6_init 100 = .ok (.newarray .int, 2) := by decide +kernel
theorem dX6_init_102 : decode cX6_init 102 = .ok (.putfield 48, 3) := by decide +kernel
theorem dX6_init_105 : decode cX6_init 105 = .ok (.aload_n 0, 1) := by decide +kernel
theorem dX6_init_106 : decode cX6_init 106 = .ok (.bipush 60, 2) := by decide +kernel
theorem dX6_init_108 : decode cX6_init 108 = .ok (.newarray .int, 2) := by decide +kernel
theorem dX6_init_110 : decode cX6_init 110 = .ok (.putfield 51, 3) := by decide +kernel
theorem dX6_init_113 : decode cX6_init 113 = .ok (.aload_n 0, 1) := by decide +kernel
theorem dX6_init_114 : decode cX6_init 114 = .ok (.bipush 60, 2) := by decide +kernel
theorem dX6_init_116 : decode cX6_init 116 = .ok (.newarray .boolean, 2) := by decide +kernel
theorem dX6_init_118 : decode cX6_init 118 = .ok (.putfield 54, 3) := by decide +kernel
theorem dX6_init_121 : decode cX6_init 121 = .ok (.aload_n 0, 1) := by decide +kernel
theorem dX6_init_122 : decode cX6_init 122 = .ok (.iconst 4, 1) := by decide +kernel
theorem dX6_init_123 : decode cX6_init 123 = .ok (.newarray .int, 2) := by decide +kernel
theorem dX6_init_125 : decode cX6_init 125 = .ok (.putfield 58, 3) := by decide +kernel
theorem dX6_init_128 : decode cX6_init 128 = .ok (.aload_n 0, 1) := by decide +kernel
theorem dX6_init_129 : decode cX6_init 129 = .ok (.sipush 1728, 3) := by decide +kernel
theorem dX6_init_132 : decode cX6_init 132 = .ok (.newarray .int, 2) := by decide +kernel
theorem dX6_init_134 : decode cX6_init 134 = .ok (.putfield 61, 3) := by decide +kernel
theorem dX6_init_137 : decode cX6_init 137 = .ok (.return_, 1) := by decide +kernel
theorem dX6_thrown_0 : decode cX6_thrown 0 = .ok (.aload_n 0, 1) := by decide +kernel
theorem dX6_thrown_1 : decode cX6_thrown 1 = .ok (.getfield 64, 3) := by decide +kernel
theorem dX6_thrown_4 : decode cX6_thrown 4 = .ok (.ireturn, 1) := by decide +kernel
theorem dX6_fails_0 : decode cX6_fails 0 = .ok (.aload_n 0, 1) := by decide +kernel
theorem dX6_fails_1 : decode cX6_fails 1 = .ok (.iload_n 1, 1) := by decide +kernel
theorem dX6_fails_2 : decode cX6_fails 2 = .ok (.putfield 64, 3) := by decide +kernel
theorem dX6_fails_5 : decode cX6_fails 5 = .ok (.iload_n 1, 1) := by decide +kernel
theorem dX6_fails_6 : decode cX6_fails 6 = .ok (.ifCond .le 7, 3) := by decide +kernel
theorem dX6_fails_9 : decode cX6_fails 9 = .ok (.iconst 1, 1) := by decide +kernel
theorem dX6_fails_10 : decode cX6_fails 10 = .ok (.goto 4, 3) := by decide +kernel
theorem dX6_fails_13 : decode cX6_fails 13 = .ok (.iconst 0, 1) := by decide +kernel
theorem dX6_fails_14 : decode cX6_fails 14 = .ok (.ireturn, 1) := by decide +kernel
theorem dX6_tells_0 : decode cX6_tells 0 = .ok (.aload_n 0, 1) := by decide +kernel
theorem dX6_tells_1 : decode cX6_tells 1 = .ok (.iconst 0, 1) := by decide +kernel
theorem dX6_tells_2 : decode cX6_tells 2 = .ok (.putfield 64, 3) := by decide +kernel
theorem dX6_tells_5 : decode cX6_tells 5 = .ok (.iload_n 1, 1) := by decide +kernel
theorem dX6_tells_6 : decode cX6_tells 6 = .ok (.ireturn, 1) := by decide +kernel
theorem dX6_isIn_0 : decode cX6_isIn 0 = .ok (.iload_n 0, 1) := by decide +kernel
theorem dX6_isIn_1 : decode cX6_isIn 1 = .ok (.iload_n 1, 1) := by decide +kernel
theorem dX6_isIn_2 : decode cX6_isIn 2 = .ok (.if_icmp .lt 12, 3) := by decide +kernel
theorem dX6_isIn_5 : decode cX6_isIn 5 = .ok (.iload_n 0, 1) := by decide +kernel
theorem dX6_isIn_6 : decode cX6_isIn 6 = .ok (.iload_n 2, 1) := by decide +kernel
theorem dX6_isIn_7 : decode cX6_isIn 7 = .ok (.if_icmp .gt 7, 3) := by decide +kernel
theorem dX6_isIn_10 : decode cX6_isIn 10 = .ok (.iconst 1, 1) := by decide +kernel
theorem dX6_isIn_11 : decode cX6_isIn 11 = .ok (.goto 4, 3) := by decide +kernel
theorem dX6_isIn_14 : decode cX6_isIn 14 = .ok (.iconst 0, 1) := by decide +kernel
theorem dX6_isIn_15 : decode cX6_isIn 15 = .ok (.ireturn, 1) := by decide +kernel
set_option maxRecDepth 20000 in
theorem ggX6_isLeg_X6_isIn : GoodIn wsX6_isLeg wsX6_isIn := goodIn_r _ [4] (by decide +kernel) (by decide +kernel)
set_option maxRecDepth 20000 in
theorem gX6_isLeg_X6_isIn : GoodIn wsX6_isLeg (va_wsS RX6 67 yX6_isIn wsX6_isIn) := goodIn_app (goodIn_of _ (by decide +kernel)) ggX6_isLeg_X6_isIn
theorem dX6_isLeg_0 : decode cX6_isLeg 0 = .ok (.iload_n 0, 1) := by decide +kernel
theorem dX6_isLeg_1 : decode cX6_isLeg 1 = .ok (.iconst 0, 1) := by decide +kernel
theorem dX6_isLeg_2 : decode cX6_isLeg 2 = .ok (.iconst 2, 1) := by decide +kernel
theorem dX6_isLeg_3 : decode cX6_isLeg 3 = .ok (.invokestatic 67, 3) := by decide +kernel
theorem dX6_isLeg_6 : decode cX6_isLeg 6 = .ok (.ireturn, 1) := by decide +kernel
set_option maxRecDepth 20000 in
theorem ggX6_isProduct_X6_isIn : GoodIn wsX6_isProduct wsX6_isIn := goodIn_r _ [5] (by decide +kernel) (by decide +kernel)
set_option maxRecDepth 20000 in
theorem gX6_isProduct_X6_isIn : GoodIn wsX6_isProduct (va_wsS RX6 67 yX6_isIn wsX6_isIn) := goodIn_app (goodIn_of _ (by decide +kernel)) ggX6_isProduct_X6_isIn
theorem dX6_isProduct_0 : decode cX6_isProduct 0 = .ok (.iload_n 1, 1) := by decide +kernel
theorem dX6_isProduct_1 : decode cX6_isProduct 1 = .ok (.iconst 0, 1) := by decide +kernel
theorem dX6_isProduct_2 : decode cX6_isProduct 2 = .ok (.aload_n 0, 1) := by decide +kernel
theorem dX6_isProduct_3 : decode cX6_isProduct 3 = .ok (.getfield 71, 3) := by decide +kernel
theorem dX6_isProduct_6 : decode cX6_isProduct 6 = .ok (.iconst 1, 1) := by decide +kernel
theorem dX6_isProduct_7 : decode cX6_isProduct 7 = .ok (.isub, 1) := by decide +kernel
theorem dX6_isProduct_8 : decode cX6_isProduct 8 = .ok (.invokestatic 67, 3) := by decide +kernel
theorem dX6_isProduct_11 : decode cX6_isProduct 11 = .ok (.ireturn, 1) := by decide +kernel
theorem dX6_left_0 : decode cX6_left 0 = .ok (.aload_n 0, 1) := by decide +kernel
theorem dX6_left_1 : decode cX6_left 1 = .ok (.getfield 7, 3) := by decide +kernel
theorem dX6_left_4 : decode cX6_left 4 = .ok (.iload_n 1, 1) := by decide +kernel
theorem dX6_left_5 : decode cX6_left 5 = .ok (.iaload, 1) := by decide +kernel
theorem dX6_left_6 : decode cX6_left 6 = .ok (.aload_n 0, 1) := by decide +kernel
theorem dX6_left_7 : decode cX6_left 7 = .ok (.getfield 13, 3) := by decide +kernel
theorem dX6_left_10 : decode cX6_left 10 = .ok (.iload_n 1, 1) := by decide +kernel
theorem dX6_left_11 : decode cX6_left 11 = .ok (.iaload, 1) := by decide +kernel
theorem dX6_left_12 : decode cX6_left 12 = .ok (.if_icmp .le 19, 3) := by decide +kernel
theorem dX6_left_15 : decode cX6_left 15 = .ok (.aload_n 0, 1) := by decide +kernel
theorem dX6_left_16 : decode cX6_left 16 = .ok (.getfield 7, 3) := by decide +kernel
theorem dX6_left_19 : decode cX6_left 19 = .ok (.iload_n 1, 1) := by decide +kernel
theorem dX6_left_20 : decode cX6_left 20 = .ok (.iaload, 1) := by decide +kernel
theorem dX6_left_21 : decode cX6_left 21 = .ok (.aload_n 0, 1) := by decide +kernel
theorem dX6_left_22 : decode cX6_left 22 = .ok (.getfield 13, 3) := by decide +kernel
theorem dX6_left_25 : decode cX6_left 25 = .ok (.iload_n 1, 1) := by decide +kernel
theorem dX6_left_26 : decode cX6_left 26 = .ok (.iaload, 1) := by decide +kernel
theorem dX6_left_27 : decode cX6_left 27 = .ok (.isub, 1) := by decide +kernel
theorem dX6_left_28 : decode cX6_left 28 = .ok (.goto 4, 3) := by decide +kernel
theorem dX6_left_31 : decode cX6_left 31 = .ok (.iconst 0, 1) := by decide +kernel
theorem dX6_left_32 : decode cX6_left 32 = .ok (.ireturn, 1) := by decide +kernel
theorem dX6_place_0 : decode cX6_place 0 = .ok (.bipush 12, 2) := by decide +kernel
theorem dX6_place_2 : decode cX6_place 2 = .ok (.bipush 12, 2) := by decide +kernel
theorem dX6_place_4 : decode cX6_place 4 = .ok (.iload_n 0, 1) := by decide +kernel
theorem dX6_place_5 : decode cX6_place 5 = .ok (.imul, 1) := by decide +kernel
theorem dX6_place_6 : decode cX6_place 6 = .ok (.iload_n 1, 1) := by decide +kernel
theorem dX6_place_7 : decode cX6_place 7 = .ok (.iadd, 1) := by decide +kernel
theorem dX6_place_8 : decode cX6_place 8 = .ok (.imul, 1) := by decide +kernel
theorem dX6_place_9 : decode cX6_place 9 = .ok (.iload_n 2, 1) := by decide +kernel
theorem dX6_place_10 : decode cX6_place 10 = .ok (.iadd, 1) := by decide +kernel
theorem dX6_place_11 : decode cX6_place 11 = .ok (.ireturn, 1) := by decide +kernel
set_option maxRecDepth 20000 in
theorem ggX6_adds_X6_isIn : GoodIn wsX6_adds wsX6_isIn := goodIn_r _ [8] (by decide +kernel) (by decide +kernel)
set_option maxRecDepth 20000 in
theorem gX6_adds_X6_isIn : GoodIn wsX6_adds (va_wsS RX6 67 yX6_isIn wsX6_isIn) := goodIn_app (goodIn_of _ (by decide +kernel)) ggX6_adds_X6_isIn
set_option maxRecDepth 20000 in
theorem ggX6_adds_X6_place : GoodIn wsX6_adds wsX6_place := goodIn_r _ [11] (by decide +kernel) (by decide +kernel)
set_option maxRecDepth 20000 in
theorem gX6_adds_X6_place : GoodIn wsX6_adds (va_wsS RX6 74 yX6_place wsX6_place) := goodIn_app (goodIn_of _ (by decide +kernel)) ggX6_adds_X6_place
theorem dX6_adds_0 : decode cX6_adds 0 = .ok (.iconst 0, 1) := by decide +kernel
theorem dX6_adds_1 : decode cX6_adds 1 = .ok (.aload_n 0, 1) := by decide +kernel
theorem dX6_adds_2 : decode cX6_adds 2 = .ok (.getfield 16, 3) := by decide +kernel
theorem dX6_adds_5 : decode cX6_adds 5 = .ok (.iload_n 1, 1) := by decide +kernel
theorem dX6_adds_6 : decode cX6_adds 6 = .ok (.iaload, 1) := by decide +kernel
theorem dX6_adds_7 : decode cX6_adds 7 = .ok (.aload_n 0, 1) := by decide +kernel
theorem dX6_adds_8 : decode cX6_adds 8 = .ok (.getfield 19, 3) := by decide +kernel
theorem dX6_adds_11 : decode cX6_adds 11 = .ok (.iload_n 1, 1) := by decide +kernel
theorem dX6_adds_12 : decode cX6_adds 12 = .ok (.iaload, 1) := by decide +kernel
theorem dX6_adds_13 : decode cX6_adds 13 = .ok (.invokestatic 67, 3) := by decide +kernel
theorem dX6_adds_16 : decode cX6_adds 16 = .ok (.ifCond .eq 7, 3) := by decide +kernel
theorem dX6_adds_19 : decode cX6_adds 19 = .ok (.iconst 1, 1) := by decide +kernel
theorem dX6_adds_20 : decode cX6_adds 20 = .ok (.goto 4, 3) := by decide +kernel
theorem dX6_adds_23 : decode cX6_adds 23 = .ok (.iconst 0, 1) := by decide +kernel
theorem dX6_adds_24 : decode cX6_adds 24 = .ok (.istore_n 2, 1) := by decide +kernel
theorem dX6_adds_25 : decode cX6_adds 25 = .ok (.iconst 1, 1) := by decide +kernel
theorem dX6_adds_26 : decode cX6_adds 26 = .ok (.aload_n 0, 1) := by decide +kernel
theorem dX6_adds_27 : decode cX6_adds 27 = .ok (.getfield 16, 3) := by decide +kernel
theorem dX6_adds_30 : decode cX6_adds 30 = .ok (.iload_n 1, 1) := by decide +kernel
theorem dX6_adds_31 : decode cX6_adds 31 = .ok (.iaload, 1) := by decide +kernel
theorem dX6_adds_32 : decode cX6_adds 32 = .ok (.aload_n 0, 1) := by decide +kernel
theorem dX6_adds_33 : decode cX6_adds 33 = .ok (.getfield 19, 3) := by decide +kernel
theorem dX6_adds_36 : decode cX6_adds 36 = .ok (.iload_n 1, 1) := by decide +kernel
theorem dX6_adds_37 : decode cX6_adds 37 = .ok (.iaload, 1) := by decide +kernel
theorem dX6_adds_38 : decode cX6_adds 38 = .ok (.invokestatic 67, 3) := by decide +kernel
theorem dX6_adds_41 : decode cX6_adds 41 = .ok (.ifCond .eq 7, 3) := by decide +kernel
theorem dX6_adds_44 : decode cX6_adds 44 = .ok (.iconst 1, 1) := by decide +kernel
theorem dX6_adds_45 : decode cX6_adds 45 = .ok (.goto 4, 3) := by decide +kernel
theorem dX6_adds_48 : decode cX6_adds 48 = .ok (.iconst 0, 1) := by decide +kernel
theorem dX6_adds_49 : decode cX6_adds 49 = .ok (.istore_n 3, 1) := by decide +kernel
theorem dX6_adds_50 : decode cX6_adds 50 = .ok (.iconst 2, 1) := by decide +kernel
theorem dX6_adds_51 : decode cX6_adds 51 = .ok (.aload_n 0, 1) := by decide +kernel
theorem dX6_adds_52 : decode cX6_adds 52 = .ok (.getfield 16, 3) := by decide +kernel
theorem dX6_adds_55 : decode cX6_adds 55 = .ok (.iload_n 1, 1) := by decide +kernel
theorem dX6_adds_56 : decode cX6_adds 56 = .ok (.iaload, 1) := by decide +kernel
theorem dX6_adds_57 : decode cX6_adds 57 = .ok (.aload_n 0, 1) := by decide +kernel
theorem dX6_adds_58 : decode cX6_adds 58 = .ok (.getfield 19, 3) := by decide +kernel
theorem dX6_adds_61 : decode cX6_adds 61 = .ok (.iload_n 1, 1) := by decide +kernel
theorem dX6_adds_62 : decode cX6_adds 62 = .ok (.iaload, 1) := by decide +kernel
theorem dX6_adds_63 : decode cX6_adds 63 = .ok (.invokestatic 67, 3) := by decide +kernel
theorem dX6_adds_66 : decode cX6_adds 66 = .ok (.ifCond .eq 7, 3) := by decide +kernel
theorem dX6_adds_69 : decode cX6_adds 69 = .ok (.iconst 1, 1) := by decide +kernel
theorem dX6_adds_70 : decode cX6_adds 70 = .ok (.goto 4, 3) := by decide +kernel
theorem dX6_adds_73 : decode cX6_adds 73 = .ok (.iconst 0, 1) := by decide +kernel
theorem dX6_adds_74 : decode cX6_adds 74 = .ok (.istore 4, 2) := by decide +kernel
theorem dX6_adds_76 : decode cX6_adds 76 = .ok (.iload_n 2, 1) := by decide +kernel
theorem dX6_adds_77 : decode cX6_adds 77 = .ok (.iload_n 3, 1) := by decide +kernel
theorem dX6_adds_78 : decode cX6_adds 78 = .ok (.iload 4, 2) := by decide +kernel
theorem dX6_adds_80 : decode cX6_adds 80 = .ok (.invokestatic 74, 3) := by decide +kernel
theorem dX6_adds_83 : decode cX6_adds 83 = .ok (.istore 5, 2) := by decide +kernel
theorem dX6_adds_85 : decode cX6_adds 85 = .ok (.sipush 1727, 3) := by decide +kernel
theorem dX6_adds_88 : decode cX6_adds 88 = .ok (.istore 6, 2) := by decide +kernel
theorem dX6_adds_90 : decode cX6_adds 90 = .ok (.iload 6, 2) := by decide +kernel
theorem dX6_adds_92 : decode cX6_adds 92 = .ok (.ifCond .lt 107, 3) := by decide +kernel
theorem dX6_adds_95 : decode cX6_adds 95 = .ok (.iload 6, 2) := by decide +kernel
theorem dX6_adds_97 : decode cX6_adds 97 = .ok (.sipush 144, 3) := by decide +kernel
theorem dX6_adds_100 : decode cX6_adds 100 = .ok (.idiv, 1) := by decide +kernel
theorem dX6_adds_101 : decode cX6_adds 101 = .ok (.iload_n 2, 1) := by decide +kernel
theorem dX6_adds_102 : decode cX6_adds 102 = .ok (.if_icmp .lt 29, 3) := by decide +kernel
theorem dX6_adds_105 : decode cX6_adds 105 = .ok (.iload 6, 2) := by decide +kernel
theorem dX6_adds_107 : decode cX6_adds 107 = .ok (.bipush 12, 2) := by decide +kernel
theorem dX6_adds_109 : decode cX6_adds 109 = .ok (.idiv, 1) := by decide +kernel
theorem dX6_adds_110 : decode cX6_adds 110 = .ok (.bipush 12, 2) := by decide +kernel
theorem dX6_adds_112 : decode cX6_adds 112 = .ok (.irem, 1) := by decide +kernel
theorem dX6_adds_113 : decode cX6_adds 113 = .ok (.iload_n 3, 1) := by decide +kernel
theorem dX6_adds_114 : decode cX6_adds 114 = .ok (.if_icmp .lt 17, 3) := by decide +kernel
theorem dX6_adds_117 : decode cX6_adds 117 = .ok (.iload 6, 2) := by decide +kernel
theorem dX6_adds_119 : decode cX6_adds 119 = .ok (.bipush 12, 2) := by decide +kernel
theorem dX6_adds_121 : decode cX6_adds 121 = .ok (.irem, 1) := by decide +kernel
theorem dX6_adds_122 : decode cX6_adds 122 = .ok (.iload 4, 2) := by decide +kernel
theorem dX6_adds_124 : decode cX6_adds 124 = .ok (.if_icmp .lt 7, 3) := by decide +kernel
theorem dX6_adds_127 : decode cX6_adds 127 = .ok (.iconst 1, 1) := by decide +kernel
theorem dX6_adds_128 : decode cX6_adds 128 = .ok (.goto 4, 3) := by decide +kernel
theorem dX6_adds_131 : decode cX6_adds 131 = .ok (.iconst 0, 1) := by decide +kernel
theorem dX6_adds_132 : decode cX6_adds 132 = .ok (.istore 7, 2) := by decide +kernel
theorem dX6_adds_134 : decode cX6_adds 134 = .ok (.iload 7, 2) := by decide +kernel
theorem dX6_adds_136 : decode cX6_adds 136 = .ok (.ifCond .eq 23, 3) := by decide +kernel
theorem dX6_adds_139 : decode cX6_adds 139 = .ok (.aload_n 0, 1) := by decide +kernel
theorem dX6_adds_140 : decode cX6_adds 140 = .ok (.getfield 61, 3) := by decide +kernel
theorem dX6_adds_143 : decode cX6_adds 143 = .ok (.iload 6, 2) := by decide +kernel
theorem dX6_adds_145 : decode cX6_adds 145 = .ok (.iload 5, 2) := by decide +kernel
theorem dX6_adds_147 : decode cX6_adds 147 = .ok (.isub, 1) := by decide +kernel
theorem dX6_adds_148 : decode cX6_adds 148 = .ok (.iaload, 1) := by decide +kernel
theorem dX6_adds_149 : decode cX6_adds 149 = .ok (.aload_n 0, 1) := by decide +kernel
theorem dX6_adds_150 : decode cX6_adds 150 = .ok (.getfield 22, 3) := by decide +kernel
theorem dX6_adds_153 : decode cX6_adds 153 = .ok (.iload_n 1, 1) := by decide +kernel
theorem dX6_adds_154 : decode cX6_adds 154 = .ok (.iaload, 1) := by decide +kernel
theorem dX6_adds_155 : decode cX6_adds 155 = .ok (.iadd, 1) := by decide +kernel
theorem dX6_adds_156 : decode cX6_adds 156 = .ok (.goto 4, 3) := by decide +kernel
theorem dX6_adds_159 : decode cX6_adds 159 = .ok (.iconst 0, 1) := by decide +kernel
theorem dX6_adds_160 : decode cX6_adds 160 = .ok (.istore 8, 2) := by decide +kernel
theorem dX6_adds_162 : decode cX6_adds 162 = .ok (.aload_n 0, 1) := by decide +kernel
theorem dX6_adds_163 : decode cX6_adds 163 = .ok (.getfield 61, 3) := by decide +kernel
theorem dX6_adds_166 : decode cX6_adds 166 = .ok (.iload 6, 2) := by decide +kernel
theorem dX6_adds_168 : decode cX6_adds 168 = .ok (.iload 8, 2) := by decide +kernel
theorem dX6_adds_170 : decode cX6_adds 170 = .ok (.aload_n 0, 1) := by decide +kernel
theorem dX6_adds_171 : decode cX6_adds 171 = .ok (.getfield 61, 3) := by decide +kernel
theorem dX6_adds_174 : decode cX6_adds 174 = .ok (.iload 6, 2) := by decide +kernel
theorem dX6_adds_176 : decode cX6_adds 176 = .ok (.iaload, 1) := by decide +kernel
theorem dX6_adds_177 : decode cX6_adds 177 = .ok (.if_icmp .le 8, 3) := by decide +kernel
theorem dX6_adds_180 : decode cX6_adds 180 = .ok (.iload 8, 2) := by decide +kernel
theorem dX6_adds_182 : decode cX6_adds 182 = .ok (.goto 10, 3) := by decide +kernel
theorem dX6_adds_185 : decode cX6_adds 185 = .ok (.aload_n 0, 1) := by decide +kernel
theorem dX6_adds_186 : decode cX6_adds 186 = .ok (.getfield 61, 3) := by decide +kernel
theorem dX6_adds_189 : decode cX6_adds 189 = .ok (.iload 6, 2) := by decide +kernel
theorem dX6_adds_191 : decode cX6_adds 191 = .ok (.iaload, 1) := by decide +kernel
theorem dX6_adds_192 : decode cX6_adds 192 = .ok (.iastore, 1) := by decide +kernel
theorem dX6_adds_193 : decode cX6_adds 193 = .ok (.iinc 6 (-1), 3) := by decide +kernel
theorem dX6_adds_196 : decode cX6_adds 196 = .ok (.goto (-106), 3) := by decide +kernel
theorem dX6_adds_199 : decode cX6_adds 199 = .ok (.return_, 1) := by decide +kernel
set_option maxRecDepth 20000 in
theorem ggX6_finds_X6_adds : GoodIn wsX6_finds wsX6_adds := goodIn_r _ [9, 10, 11, 1, 12, 13, 14, 8, 15, 16, 17, 18, 19, 20, 21, 22, 23, 24, 25, 26, 27, 28, 29, 30, 31, 32, 33, 34, 35, 36, 37, 38, 39, 40] (by decide +kernel) (by decide +kernel)
set_option maxRecDepth 20000 in
theorem gX6_finds_X6_adds : GoodIn wsX6_finds (wsV RX6 78 RX6 yX6_adds wsX6_adds) := goodIn_app (goodIn_of _ (by decide +kernel)) ggX6_finds_X6_adds
theorem dX6_finds_0 : decode cX6_finds 0 = .ok (.iconst 0, 1) := by decide +kernel
theorem dX6_finds_1 : decode cX6_finds 1 = .ok (.istore_n 1, 1) := by decide +kernel
theorem dX6_finds_2 : decode cX6_finds 2 = .ok (.iload_n 1, 1) := by decide +kernel
theorem dX6_finds_3 : decode cX6_finds 3 = .ok (.sipush 1728, 3) := by decide +kernel
theorem dX6_finds_6 : decode cX6_finds 6 = .ok (.if_icmp .ge 16, 3) := by decide +kernel
theorem dX6_finds_9 : decode cX6_finds 9 = .ok (.aload_n 0, 1) := by decide +kernel
theorem dX6_finds_10 : decode cX6_finds 10 = .ok (.getfield 61, 3) := by decide +kernel
theorem dX6_finds_13 : decode cX6_finds 13 = .ok (.iload_n 1, 1) := by decide +kernel
theorem dX6_finds_14 : decode cX6_finds 14 = .ok (.iconst 0, 1) := by decide +kernel
theorem dX6_finds_15 : decode cX6_finds 15 = .ok (.iastore, 1) := by decide +kernel
theorem dX6_finds_16 : decode cX6_finds 16 = .ok (.iinc 1 1, 3) := by decide +kernel
theorem dX6_finds_19 : decode cX6_finds 19 = .ok (.goto (-17), 3) := by decide +kernel
theorem dX6_finds_22 : decode cX6_finds 22 = .ok (.iconst 0, 1) := by decide +kernel
theorem dX6_finds_23 : decode cX6_finds 23 = .ok (.istore_n 1, 1) := by decide +kernel
theorem dX6_finds_24 : decode cX6_finds 24 = .ok (.iload_n 1, 1) := by decide +kernel
theorem dX6_finds_25 : decode cX6_finds 25 = .ok (.aload_n 0, 1) := by decide +kernel
theorem dX6_finds_26 : decode cX6_finds 26 = .ok (.getfield 71, 3) := by decide +kernel
theorem dX6_finds_29 : decode cX6_finds 29 = .ok (.if_icmp .ge 47, 3) := by decide +kernel
theorem dX6_finds_32 : decode cX6_finds 32 = .ok (.aload_n 0, 1) := by decide +kernel
theorem dX6_finds_33 : decode cX6_finds 33 = .ok (.getfield 25, 3) := by decide +kernel
theorem dX6_finds_36 : decode cX6_finds 36 = .ok (.iload_n 1, 1) := by decide +kernel
theorem dX6_finds_37 : decode cX6_finds 37 = .ok (.iaload, 1) := by decide +kernel
theorem dX6_finds_38 : decode cX6_finds 38 = .ok (.aload_n 0, 1) := by decide +kernel
theorem dX6_finds_39 : decode cX6_finds 39 = .ok (.getfield 28, 3) := by decide +kernel
theorem dX6_finds_42 : decode cX6_finds 42 = .ok (.iload_n 1, 1) := by decide +kernel
theorem dX6_finds_43 : decode cX6_finds 43 = .ok (.iaload, 1) := by decide +kernel
theorem dX6_finds_44 : decode cX6_finds 44 = .ok (.isub, 1) := by decide +kernel
theorem dX6_finds_45 : decode cX6_finds 45 = .ok (.istore_n 2, 1) := by decide +kernel
theorem dX6_finds_46 : decode cX6_finds 46 = .ok (.iconst 0, 1) := by decide +kernel
theorem dX6_finds_47 : decode cX6_finds 47 = .ok (.istore_n 3, 1) := by decide +kernel
theorem dX6_finds_48 : decode cX6_finds 48 = .ok (.iload_n 3, 1) := by decide +kernel
theorem dX6_finds_49 : decode cX6_finds 49 = .ok (.iload_n 2, 1) := by decide +kernel
theorem dX6_finds_50 : decode cX6_finds 50 = .ok (.if_icmp .ge 20, 3) := by decide +kernel
theorem dX6_finds_53 : decode cX6_finds 53 = .ok (.iload_n 3, 1) := by decide +kernel
theorem dX6_finds_54 : decode cX6_finds 54 = .ok (.bipush 12, 2) := by decide +kernel
theorem dX6_finds_56 : decode cX6_finds 56 = .ok (.if_icmp .ge 14, 3) := by decide +kernel
theorem dX6_finds_59 : decode cX6_finds 59 = .ok (.aload_n 0, 1) := by decide +kernel
theorem dX6_finds_60 : decode cX6_finds 60 = .ok (.iload_n 1, 1) := by decide +kernel
theorem dX6_finds_61 : decode cX6_finds 61 = .ok (.invokevirtual 78, 3) := by decide +kernel
theorem dX6_finds_64 : decode cX6_finds 64 = .ok (.iinc 3 1, 3) := by decide +kernel
theorem dX6_finds_67 : decode cX6_finds 67 = .ok (.goto (-19), 3) := by decide +kernel
theorem dX6_finds_70 : decode cX6_finds 70 = .ok (.iinc 1 1, 3) := by decide +kernel
theorem dX6_finds_73 : decode cX6_finds 73 = .ok (.goto (-49), 3) := by decide +kernel
theorem dX6_finds_76 : decode cX6_finds 76 = .ok (.return_, 1) := by decide +kernel
set_option maxRecDepth 20000 in
theorem ggX6_worthOf_X6_left : GoodIn wsX6_worthOf wsX6_left := goodIn_r _ [6, 7, 8, 12, 13, 14, 15, 16, 17, 18, 19, 20, 21, 22, 23, 24, 25, 26, 27, 28, 29, 30, 31, 32, 33] (by decide +kernel) (by decide +kernel)
set_option maxRecDepth 20000 in
theorem gX6_worthOf_X6_left : GoodIn wsX6_worthOf (wsV RX6 82 RX6 yX6_left wsX6_left) := goodIn_app (goodIn_of _ (by decide +kernel)) ggX6_worthOf_X6_left
set_option maxRecDepth 20000 in
theorem ggX6_worthOf_X6_place : GoodIn wsX6_worthOf wsX6_place := goodIn_r _ [11] (by decide +kernel) (by decide +kernel)
set_option maxRecDepth 20000 in
theorem gX6_worthOf_X6_place : GoodIn wsX6_worthOf (va_wsS RX6 74 yX6_place wsX6_place) := goodIn_app (goodIn_of _ (by decide +kernel)) ggX6_worthOf_X6_place
theorem dX6_worthOf_0 : decode cX6_worthOf 0 = .ok (.aload_n 0, 1) := by decide +kernel
theorem dX6_worthOf_1 : decode cX6_worthOf 1 = .ok (.getfield 61, 3) := by decide +kernel
theorem dX6_worthOf_4 : decode cX6_worthOf 4 = .ok (.aload_n 0, 1) := by decide +kernel
theorem dX6_worthOf_5 : decode cX6_worthOf 5 = .ok (.iconst 0, 1) := by decide +kernel
theorem dX6_worthOf_6 : decode cX6_worthOf 6 = .ok (.invokevirtual 82, 3) := by decide +kernel
theorem dX6_worthOf_9 : decode cX6_worthOf 9 = .ok (.iload_n 1, 1) := by decide +kernel
theorem dX6_worthOf_10 : decode cX6_worthOf 10 = .ok (.iadd, 1) := by decide +kernel
theorem dX6_worthOf_11 : decode cX6_worthOf 11 = .ok (.aload_n 0, 1) := by decide +kernel
theorem dX6_worthOf_12 : decode cX6_worthOf 12 = .ok (.iconst 1, 1) := by decide +kernel
theorem dX6_worthOf_13 : decode cX6_worthOf 13 = .ok (.invokevirtual 82, 3) := by decide +kernel
theorem dX6_worthOf_16 : decode cX6_worthOf 16 = .ok (.iload_n 2, 1) := by decide +kernel
theorem dX6_worthOf_17 : decode cX6_worthOf 17 = .ok (.iadd, 1) := by decide +kernel
theorem dX6_worthOf_18 : decode cX6_worthOf 18 = .ok (.aload_n 0, 1) := by decide +kernel
theorem dX6_worthOf_19 : decode cX6_worthOf 19 = .ok (.iconst 2, 1) := by decide +kernel
theorem dX6_worthOf_20 : decode cX6_worthOf 20 = .ok (.invokevirtual 82, 3) := by decide +kernel
theorem dX6_worthOf_23 : decode cX6_worthOf 23 = .ok (.iload_n 3, 1) := by decide +kernel
theorem dX6_worthOf_24 : decode cX6_worthOf 24 = .ok (.iadd, 1) := by decide +kernel
theorem dX6_worthOf_25 : decode cX6_worthOf 25 = .ok (.invokestatic 74, 3) := by decide +kernel
theorem dX6_worthOf_28 : decode cX6_worthOf 28 = .ok (.iaload, 1) := by decide +kernel
theorem dX6_worthOf_29 : decode cX6_worthOf 29 = .ok (.ireturn, 1) := by decide +kernel
set_option maxRecDepth 20000 in
theorem ggX6_bidOf_X6_worthOf : GoodIn wsX6_bidOf wsX6_worthOf := goodIn_r _ [5, 6, 7, 8, 9, 4, 10, 11, 12, 13, 14, 15, 16, 17, 18, 19, 20, 21, 22, 23, 24, 25, 26, 27, 28, 29, 30, 31, 32, 33, 34, 35, 36, 37] (by decide +kernel) (by decide +kernel)
set_option maxRecDepth 20000 in
theorem gX6_bidOf_X6_worthOf : GoodIn wsX6_bidOf (wsV RX6 86 RX6 yX6_worthOf wsX6_worthOf) := goodIn_app (goodIn_of _ (by decide +kernel)) ggX6_bidOf_X6_worthOf
theorem dX6_bidOf_0 : decode cX6_bidOf 0 = .ok (.aload_n 0, 1) := by decide +kernel
theorem dX6_bidOf_1 : decode cX6_bidOf 1 = .ok (.iload_n 1, 1) := by decide +kernel
theorem dX6_bidOf_2 : decode cX6_bidOf 2 = .ok (.ifCond .ne 7, 3) := by decide +kernel
theorem dX6_bidOf_5 : decode cX6_bidOf 5 = .ok (.iconst 1, 1) := by decide +kernel
theorem dX6_bidOf_6 : decode cX6_bidOf 6 = .ok (.goto 4, 3) := by decide +kernel
theorem dX6_bidOf_9 : decode cX6_bidOf 9 = .ok (.iconst 0, 1) := by decide +kernel
theorem dX6_bidOf_10 : decode cX6_bidOf 10 = .ok (.iload_n 1, 1) := by decide +kernel
theorem dX6_bidOf_11 : decode cX6_bidOf 11 = .ok (.iconst 1, 1) := by decide +kernel
theorem dX6_bidOf_12 : decode cX6_bidOf 12 = .ok (.if_icmp .ne 7, 3) := by decide +kernel
theorem dX6_bidOf_15 : decode cX6_bidOf 15 = .ok (.iconst 1, 1) := by decide +kernel
theorem dX6_bidOf_16 : decode cX6_bidOf 16 = .ok (.goto 4, 3) := by decide +kernel
theorem dX6_bidOf_19 : decode cX6_bidOf 19 = .ok (.iconst 0, 1) := by decide +kernel
theorem dX6_bidOf_20 : decode cX6_bidOf 20 = .ok (.iload_n 1, 1) := by decide +kernel
theorem dX6_bidOf_21 : decode cX6_bidOf 21 = .ok (.iconst 2, 1) := by decide +kernel
theorem dX6_bidOf_22 : decode cX6_bidOf 22 = .ok (.if_icmp .ne 7, 3) := by decide +kernel
theorem dX6_bidOf_25 : decode cX6_bidOf 25 = .ok (.iconst 1, 1) := by decide +kernel
theorem dX6_bidOf_26 : decode cX6_bidOf 26 = .ok (.goto 4, 3) := by decide +kernel
theorem dX6_bidOf_29 : decode cX6_bidOf 29 = .ok (.iconst 0, 1) := by decide +kernel
theorem dX6_bidOf_30 : decode cX6_bidOf 30 = .ok (.invokevirtual 86, 3) := by decide +kernel
theorem dX6_bidOf_33 : decode cX6_bidOf 33 = .ok (.aload_n 0, 1) := by decide +kernel
theorem dX6_bidOf_34 : decode cX6_bidOf 34 = .ok (.iconst 0, 1) := by decide +kernel
theorem dX6_bidOf_35 : decode cX6_bidOf 35 = .ok (.iconst 0, 1) := by decide +kernel
theorem dX6_bidOf_36 : decode cX6_bidOf 36 = .ok (.iconst 0, 1) := by decide +kernel
theorem dX6_bidOf_37 : decode cX6_bidOf 37 = .ok (.invokevirtual 86, 3) := by decide +kernel
theorem dX6_bidOf_40 : decode cX6_bidOf 40 = .ok (.isub, 1) := by decide +kernel
theorem dX6_bidOf_41 : decode cX6_bidOf 41 = .ok (.ireturn, 1) := by decide +kernel
set_option maxRecDepth 20000 in
theorem ggX6_displaces_X6_worthOf : GoodIn wsX6_displaces wsX6_worthOf := goodIn_r _ [5, 6, 7, 8, 9, 4, 10, 11, 12, 13, 14, 15, 19, 20, 21, 22, 23, 24, 25, 26, 27, 28, 29, 30, 31, 32, 33, 34, 35, 36, 37, 38, 39, 40] (by decide +kernel) (by decide +kernel)
set_option maxRecDepth 20000 in
theorem gX6_displaces_X6_worthOf : GoodIn wsX6_displaces (wsV RX6 86 RX6 yX6_worthOf wsX6_worthOf) := goodIn_app (goodIn_of _ (by decide +kernel)) ggX6_displaces_X6_worthOf
set_option maxRecDepth 20000 in
theorem ggX6_displaces_X6_isIn : GoodIn wsX6_displaces wsX6_isIn := goodIn_r _ [18] (by decide +kernel) (by decide +kernel)
set_option maxRecDepth 20000 in
theorem gX6_displaces_X6_isIn : GoodIn wsX6_displaces (va_wsS RX6 67 yX6_isIn wsX6_isIn) := goodIn_app (goodIn_of _ (by decide +kernel)) ggX6_displaces_X6_isIn
theorem dX6_displaces_0 : decode cX6_displaces 0 = .ok (.aload_n 0, 1) := by decide +kernel
theorem dX6_displaces_1 : decode cX6_displaces 1 = .ok (.iconst 0, 1) := by decide +kernel
theorem dX6_displaces_2 : decode cX6_displaces 2 = .ok (.iconst 0, 1) := by decide +kernel
theorem dX6_displaces_3 : decode cX6_displaces 3 = .ok (.iconst 0, 1) := by decide +kernel
theorem dX6_displaces_4 : decode cX6_displaces 4 = .ok (.invokevirtual 86, 3) := by decide +kernel
theorem dX6_displaces_7 : decode cX6_displaces 7 = .ok (.aload_n 0, 1) := by decide +kernel
theorem dX6_displaces_8 : decode cX6_displaces 8 = .ok (.iconst 0, 1) := by decide +kernel
theorem dX6_displaces_9 : decode cX6_displaces 9 = .ok (.iload_n 1, 1) := by decide +kernel
theorem dX6_displaces_10 : decode cX6_displaces 10 = .ok (.iload_n 2, 1) := by decide +kernel
theorem dX6_displaces_11 : decode cX6_displaces 11 = .ok (.invokestatic 67, 3) := by decide +kernel
theorem dX6_displaces_14 : decode cX6_displaces 14 = .ok (.ifCond .eq 8, 3) := by decide +kernel
theorem dX6_displaces_17 : decode cX6_displaces 17 = .ok (.iload_n 3, 1) := by decide +kernel
theorem dX6_displaces_18 : decode cX6_displaces 18 = .ok (.ineg, 1) := by decide +kernel
theorem dX6_displaces_19 : decode cX6_displaces 19 = .ok (.goto 4, 3) := by decide +kernel
theorem dX6_displaces_22 : decode cX6_displaces 22 = .ok (.iconst 0, 1) := by decide +kernel
theorem dX6_displaces_23 : decode cX6_displaces 23 = .ok (.iconst 1, 1) := by decide +kernel
theorem dX6_displaces_24 : decode cX6_displaces 24 = .ok (.iload_n 1, 1) := by decide +kernel
theorem dX6_displaces_25 : decode cX6_displaces 25 = .ok (.iload_n 2, 1) := by decide +kernel
theorem dX6_displaces_26 : decode cX6_displaces 26 = .ok (.invokestatic 67, 3) := by decide +kernel
theorem dX6_displaces_29 : decode cX6_displaces 29 = .ok (.ifCond .eq 8, 3) := by decide +kernel
theorem dX6_displaces_32 : decode cX6_displaces 32 = .ok (.iload_n 3, 1) := by decide +kernel
theorem dX6_displaces_33 : decode cX6_displaces 33 = .ok (.ineg, 1) := by decide +kernel
theorem dX6_displaces_34 : decode cX6_displaces 34 = .ok (.goto 4, 3) := by decide +kernel
theorem dX6_displaces_37 : decode cX6_displaces 37 = .ok (.iconst 0, 1) := by decide +kernel
theorem dX6_displaces_38 : decode cX6_displaces 38 = .ok (.iconst 2, 1) := by decide +kernel
theorem dX6_displaces_39 : decode cX6_displaces 39 = .ok (.iload_n 1, 1) := by decide +kernel
theorem dX6_displaces_40 : decode cX6_displaces 40 = .ok (.iload_n 2, 1) := by decide +kernel
theorem dX6_displaces_41 : decode cX6_displaces 41 = .ok (.invokestatic 67, 3) := by decide +kernel
theorem dX6_displaces_44 : decode cX6_displaces 44 = .ok (.ifCond .eq 8, 3) := by decide +kernel
theorem dX6_displaces_47 : decode cX6_displaces 47 = .ok (.iload_n 3, 1) := by decide +kernel
theorem dX6_displaces_48 : decode cX6_displaces 48 = .ok (.ineg, 1) := by decide +kernel
theorem dX6_displaces_49 : decode cX6_displaces 49 = .ok (.goto 4, 3) := by decide +kernel
theorem dX6_displaces_52 : decode cX6_displaces 52 = .ok (.iconst 0, 1) := by decide +kernel
theorem dX6_displaces_53 : decode cX6_displaces 53 = .ok (.invokevirtual 86, 3) := by decide +kernel
theorem dX6_displaces_56 : decode cX6_displaces 56 = .ok (.isub, 1) := by decide +kernel
theorem dX6_displaces_57 : decode cX6_displaces 57 = .ok (.ireturn, 1) := by decide +kernel
set_option maxRecDepth 20000 in
theorem ggX6_isTooFull_X6_left : GoodIn wsX6_isTooFull wsX6_left := goodIn_r _ [5, 6, 7, 8, 9, 10, 11, 12, 13, 14, 15, 16, 17, 18, 19, 20, 21, 22, 23, 24, 25, 26, 27, 28, 29] (by decide +kernel) (by decide +kernel)
set_option maxRecDepth 20000 in
theorem gX6_isTooFull_X6_left : GoodIn wsX6_isTooFull (wsV RX6 82 RX6 yX6_left wsX6_left) := goodIn_app (goodIn_of _ (by decide +kernel)) ggX6_isTooFull_X6_left
theorem dX6_isTooFull_0 : decode cX6_isTooFull 0 = .ok (.iconst 0, 1) := by decide +kernel
theorem dX6_isTooFull_1 : decode cX6_isTooFull 1 = .ok (.istore 4, 2) := by decide +kernel
theorem dX6_isTooFull_3 : decode cX6_isTooFull 3 = .ok (.iload_n 1, 1) := by decide +kernel
theorem dX6_isTooFull_4 : decode cX6_isTooFull 4 = .ok (.istore 5, 2) := by decide +kernel
theorem dX6_isTooFull_6 : decode cX6_isTooFull 6 = .ok (.iload 5, 2) := by decide +kernel
theorem dX6_isTooFull_8 : decode cX6_isTooFull 8 = .ok (.iload_n 2, 1) := by decide +kernel
theorem dX6_isTooFull_9 : decode cX6_isTooFull 9 = .ok (.if_icmp .gt 31, 3) := by decide +kernel
theorem dX6_isTooFull_12 : decode cX6_isTooFull 12 = .ok (.iload 4, 2) := by decide +kernel
theorem dX6_isTooFull_14 : decode cX6_isTooFull 14 = .ok (.ifCond .ne 13, 3) := by decide +kernel
theorem dX6_isTooFull_17 : decode cX6_isTooFull 17 = .ok (.aload_n 0, 1) := by decide +kernel
theorem dX6_isTooFull_18 : decode cX6_isTooFull 18 = .ok (.iload 5, 2) := by decide +kernel
theorem dX6_isTooFull_20 : decode cX6_isTooFull 20 = .ok (.invokevirtual 82, 3) := by decide +kernel
theorem dX6_isTooFull_23 : decode cX6_isTooFull 23 = .ok (.iload_n 3, 1) := by decide +kernel
theorem dX6_isTooFull_24 : decode cX6_isTooFull 24 = .ok (.if_icmp .ge 7, 3) := by decide +kernel
theorem dX6_isTooFull_27 : decode cX6_isTooFull 27 = .ok (.iconst 1, 1) := by decide +kernel
theorem dX6_isTooFull_28 : decode cX6_isTooFull 28 = .ok (.goto 4, 3) := by decide +kernel
theorem dX6_isTooFull_31 : decode cX6_isTooFull 31 = .ok (.iconst 0, 1) := by decide +kernel
theorem dX6_isTooFull_32 : decode cX6_isTooFull 32 = .ok (.istore 4, 2) := by decide +kernel
theorem dX6_isTooFull_34 : decode cX6_isTooFull 34 = .ok (.iinc 5 1, 3) := by decide +kernel
theorem dX6_isTooFull_37 : decode cX6_isTooFull 37 = .ok (.goto (-31), 3) := by decide +kernel
theorem dX6_isTooFull_40 : decode cX6_isTooFull 40 = .ok (.iload 4, 2) := by decide +kernel
theorem dX6_isTooFull_42 : decode cX6_isTooFull 42 = .ok (.ireturn, 1) := by decide +kernel
set_option maxRecDepth 20000 in
theorem ggX6_isSeats_X6_isIn : GoodIn wsX6_isSeats wsX6_isIn := goodIn_r _ [4] (by decide +kernel) (by decide +kernel)
set_option maxRecDepth 20000 in
theorem gX6_isSeats_X6_isIn : GoodIn wsX6_isSeats (va_wsS RX6 67 yX6_isIn wsX6_isIn) := goodIn_app (goodIn_of _ (by decide +kernel)) ggX6_isSeats_X6_isIn
theorem dX6_isSeats_0 : decode cX6_isSeats 0 = .ok (.iload_n 0, 1) := by decide +kernel
theorem dX6_isSeats_1 : decode cX6_isSeats 1 = .ok (.iconst 0, 1) := by decide +kernel
theorem dX6_isSeats_2 : decode cX6_isSeats 2 = .ok (.bipush 10, 2) := by decide +kernel
theorem dX6_isSeats_4 : decode cX6_isSeats 4 = .ok (.invokestatic 67, 3) := by decide +kernel
theorem dX6_isSeats_7 : decode cX6_isSeats 7 = .ok (.ireturn, 1) := by decide +kernel
set_option maxRecDepth 20000 in
theorem ggX6_setSeats_X6_isSeats : GoodIn wsX6_setSeats wsX6_isSeats := goodIn_r _ [5, 6, 7, 4, 8] (by decide +kernel) (by decide +kernel)
set_option maxRecDepth 20000 in
theorem gX6_setSeats_X6_isSeats : GoodIn wsX6_setSeats (va_wsS RX6 89 yX6_isSeats wsX6_isSeats) := goodIn_app (goodIn_of _ (by decide +kernel)) ggX6_setSeats_X6_isSeats
set_option maxRecDepth 20000 in
theorem ggX6_setSeats_X6_fails : GoodIn wsX6_setSeats wsX6_fails := goodIn_r _ [12, 13, 14, 15, 16, 17, 18, 19, 20, 21, 22, 23, 24, 25, 26, 27, 28, 29, 30, 31, 32, 33, 34, 35] (by decide +kernel) (by decide +kernel)
set_option maxRecDepth 20000 in
theorem gX6_setSeats_X6_fails : GoodIn wsX6_setSeats (wsV RX6 93 RX6 yX6_fails wsX6_fails) := goodIn_app (goodIn_of _ (by decide +kernel)) ggX6_setSeats_X6_fails
theorem dX6_setSeats_0 : decode cX6_setSeats 0 = .ok (.aload_n 0, 1) := by decide +kernel
theorem dX6_setSeats_1 : decode cX6_setSeats 1 = .ok (.iload_n 1, 1) := by decide +kernel
theorem dX6_setSeats_2 : decode cX6_setSeats 2 = .ok (.invokestatic 89, 3) := by decide +kernel
theorem dX6_setSeats_5 : decode cX6_setSeats 5 = .ok (.ifCond .eq 21, 3) := by decide +kernel
theorem dX6_setSeats_8 : decode cX6_setSeats 8 = .ok (.iload_n 2, 1) := by decide +kernel
theorem dX6_setSeats_9 : decode cX6_setSeats 9 = .ok (.invokestatic 89, 3) := by decide +kernel
theorem dX6_setSeats_12 : decode cX6_setSeats 12 = .ok (.ifCond .eq 14, 3) := by decide +kernel
theorem dX6_setSeats_15 : decode cX6_setSeats 15 = .ok (.iload_n 3, 1) := by decide +kernel
theorem dX6_setSeats_16 : decode cX6_setSeats 16 = .ok (.invokestatic 89, 3) := by decide +kernel
theorem dX6_setSeats_19 : decode cX6_setSeats 19 = .ok (.ifCond .eq 7, 3) := by decide +kernel
theorem dX6_setSeats_22 : decode cX6_setSeats 22 = .ok (.iconst 0, 1) := by decide +kernel
theorem dX6_setSeats_23 : decode cX6_setSeats 23 = .ok (.goto 4, 3) := by decide +kernel
theorem dX6_setSeats_26 : decode cX6_setSeats 26 = .ok (.iconst 1, 1) := by decide +kernel
theorem dX6_setSeats_27 : decode cX6_setSeats 27 = .ok (.invokevirtual 93, 3) := by decide +kernel
theorem dX6_setSeats_30 : decode cX6_setSeats 30 = .ok (.ifCond .ne 24, 3) := by decide +kernel
theorem dX6_setSeats_33 : decode cX6_setSeats 33 = .ok (.aload_n 0, 1) := by decide +kernel
theorem dX6_setSeats_34 : decode cX6_setSeats 34 = .ok (.getfield 7, 3) := by decide +kernel
theorem dX6_setSeats_37 : decode cX6_setSeats 37 = .ok (.iconst 0, 1) := by decide +kernel
theorem dX6_setSeats_38 : decode cX6_setSeats 38 = .ok (.iload_n 1, 1) := by decide +kernel
theorem dX6_setSeats_39 : decode cX6_setSeats 39 = .ok (.iastore, 1) := by decide +kernel
theorem dX6_setSeats_40 : decode cX6_setSeats 40 = .ok (.aload_n 0, 1) := by decide +kernel
theorem dX6_setSeats_41 : decode cX6_setSeats 41 = .ok (.getfield 7, 3) := by decide +kernel
theorem dX6_setSeats_44 : decode cX6_setSeats 44 = .ok (.iconst 1, 1) := by decide +kernel
theorem dX6_setSeats_45 : decode cX6_setSeats 45 = .ok (.iload_n 2, 1) := by decide +kernel
theorem dX6_setSeats_46 : decode cX6_setSeats 46 = .ok (.iastore, 1) := by decide +kernel
theorem dX6_setSeats_47 : decode cX6_setSeats 47 = .ok (.aload_n 0, 1) := by decide +kernel
theorem dX6_setSeats_48 : decode cX6_setSeats 48 = .ok (.getfield 7, 3) := by decide +kernel
theorem dX6_setSeats_51 : decode cX6_setSeats 51 = .ok (.iconst 2, 1) := by decide +kernel
theorem dX6_setSeats_52 : decode cX6_setSeats 52 = .ok (.iload_n 3, 1) := by decide +kernel
theorem dX6_setSeats_53 : decode cX6_setSeats 53 = .ok (.iastore, 1) := by decide +kernel
theorem dX6_setSeats_54 : decode cX6_setSeats 54 = .ok (.return_, 1) := by decide +kernel
set_option maxRecDepth 20000 in
theorem ggX6_addProduct_X6_isLeg : GoodIn wsX6_addProduct wsX6_isLeg := goodIn_r _ [10, 11, 12, 9, 13] (by decide +kernel) (by decide +kernel)
set_option maxRecDepth 20000 in
theorem gX6_addProduct_X6_isLeg : GoodIn wsX6_addProduct (va_wsS RX6 96 yX6_isLeg wsX6_isLeg) := goodIn_app (goodIn_of _ (by decide +kernel)) ggX6_addProduct_X6_isLeg
set_option maxRecDepth 20000 in
theorem ggX6_addProduct_X6_isIn : GoodIn wsX6_addProduct wsX6_isIn := goodIn_r _ [13] (by decide +kernel) (by decide +kernel)
set_option maxRecDepth 20000 in
theorem gX6_addProduct_X6_isIn : GoodIn wsX6_addProduct (va_wsS RX6 67 yX6_isIn wsX6_isIn) := goodIn_app (goodIn_of _ (by decide +kernel)) ggX6_addProduct_X6_isIn
set_option maxRecDepth 20000 in
theorem ggX6_addProduct_X6_fails : GoodIn wsX6_addProduct wsX6_fails := goodIn_r _ [17, 18, 19, 20, 21, 22, 23, 24, 25, 26, 27, 28, 29, 30, 31, 32, 33, 34, 35, 36, 37, 38, 39, 40] (by decide +kernel) (by decide +kernel)
set_option maxRecDepth 20000 in
theorem gX6_addProduct_X6_fails : GoodIn wsX6_addProduct (wsV RX6 93 RX6 yX6_fails wsX6_fails) := goodIn_app (goodIn_of _ (by decide +kernel)) ggX6_addProduct_X6_fails
theorem dX6_addProduct_0 : decode cX6_addProduct 0 = .ok (.iload_n 1, 1) := by decide +kernel
theorem dX6_addProduct_1 : decode cX6_addProduct 1 = .ok (.invokestatic 96, 3) := by decide +kernel
theorem dX6_addProduct_4 : decode cX6_addProduct 4 = .ok (.ifCond .eq 14, 3) := by decide +kernel
theorem dX6_addProduct_7 : decode cX6_addProduct 7 = .ok (.iload_n 2, 1) := by decide +kernel
theorem dX6_addProduct_8 : decode cX6_addProduct 8 = .ok (.invokestatic 96, 3) := by decide +kernel
theorem dX6_addProduct_11 : decode cX6_addProduct 11 = .ok (.ifCond .eq 7, 3) := by decide +kernel
theorem dX6_addProduct_14 : decode cX6_addProduct 14 = .ok (.iconst 1, 1) := by decide +kernel
theorem dX6_addProduct_15 : decode cX6_addProduct 15 = .ok (.goto 4, 3) := by decide +kernel
theorem dX6_addProduct_18 : decode cX6_addProduct 18 = .ok (.iconst 0, 1) := by decide +kernel
theorem dX6_addProduct_19 : decode cX6_addProduct 19 = .ok (.istore 4, 2) := by decide +kernel
theorem dX6_addProduct_21 : decode cX6_addProduct 21 = .ok (.iload_n 2, 1) := by decide +kernel
theorem dX6_addProduct_22 : decode cX6_addProduct 22 = .ok (.iload_n 1, 1) := by decide +kernel
theorem dX6_addProduct_23 : decode cX6_addProduct 23 = .ok (.if_icmp .lt 18, 3) := by decide +kernel
theorem dX6_addProduct_26 : decode cX6_addProduct 26 = .ok (.iload_n 3, 1) := by decide +kernel
theorem dX6_addProduct_27 : decode cX6_addProduct 27 = .ok (.iconst 1, 1) := by decide +kernel
theorem dX6_addProduct_28 : decode cX6_addProduct 28 = .ok (.sipush 1000, 3) := by decide +kernel
theorem dX6_addProduct_31 : decode cX6_addProduct 31 = .ok (.invokestatic 67, 3) := by decide +kernel
theorem dX6_addProduct_34 : decode cX6_addProduct 34 = .ok (.ifCond .eq 7, 3) := by decide +kernel
theorem dX6_addProduct_37 : decode cX6_addProduct 37 = .ok (.iconst 1, 1) := by decide +kernel
theorem dX6_addProduct_38 : decode cX6_addProduct 38 = .ok (.goto 4, 3) := by decide +kernel
theorem dX6_addProduct_41 : decode cX6_addProduct 41 = .ok (.iconst 0, 1) := by decide +kernel
theorem dX6_addProduct_42 : decode cX6_addProduct 42 = .ok (.istore 5, 2) := by decide +kernel
theorem dX6_addProduct_44 : decode cX6_addProduct 44 = .ok (.iconst 0, 1) := by decide +kernel
theorem dX6_addProduct_45 : decode cX6_addProduct 45 = .ok (.istore 6, 2) := by decide +kernel
theorem dX6_addProduct_47 : decode cX6_addProduct 47 = .ok (.iconst 0, 1) := by decide +kernel
theorem dX6_addProduct_48 : decode cX6_addProduct 48 = .ok (.istore 7, 2) := by decide +kernel
theorem dX6_addProduct_50 : decode cX6_addProduct 50 = .ok (.iload 7, 2) := by decide +kernel
theorem dX6_addProduct_52 : decode cX6_addProduct 52 = .ok (.aload_n 0, 1) := by decide +kernel
theorem dX6_addProduct_53 : decode cX6_addProduct 53 = .ok (.getfield 71, 3) := by decide +kernel
theorem dX6_addProduct_56 : decode cX6_addProduct 56 = .ok (.if_icmp .ge 54, 3) := by decide +kernel
theorem dX6_addProduct_59 : decode cX6_addProduct 59 = .ok (.iload 6, 2) := by decide +kernel
theorem dX6_addProduct_61 : decode cX6_addProduct 61 = .ok (.ifCond .ne 36, 3) := by decide +kernel
theorem dX6_addProduct_64 : decode cX6_addProduct 64 = .ok (.aload_n 0, 1) := by decide +kernel
theorem dX6_addProduct_65 : decode cX6_addProduct 65 = .ok (.getfield 16, 3) := by decide +kernel
theorem dX6_addProduct_68 : decode cX6_addProduct 68 = .ok (.iload 7, 2) := by decide +kernel
theorem dX6_addProduct_70 : decode cX6_addProduct 70 = .ok (.iaload, 1) := by decide +kernel
theorem dX6_addProduct_71 : decode cX6_addProduct 71 = .ok (.iload_n 1, 1) := by decide +kernel
theorem dX6_addProduct_72 : decode cX6_addProduct 72 = .ok (.if_icmp .ne 29, 3) := by decide +kernel
theorem dX6_addProduct_75 : decode cX6_addProduct 75 = .ok (.aload_n 0, 1) := by decide +kernel
theorem dX6_addProduct_76 : decode cX6_addProduct 76 = .ok (.getfield 19, 3) := by decide +kernel
theorem dX6_addProduct_79 : decode cX6_addProduct 79 = .ok (.iload 7, 2) := by decide +kernel
theorem dX6_addProduct_81 : decode cX6_addProduct 81 = .ok (.iaload, 1) := by decide +kernel
theorem dX6_addProduct_82 : decode cX6_addProduct 82 = .ok (.iload_n 2, 1) := by decide +kernel
theorem dX6_addProduct_83 : decode cX6_addProduct 83 = .ok (.if_icmp .ne 18, 3) := by decide +kernel
theorem dX6_addProduct_86 : decode cX6_addProduct 86 = .ok (.aload_n 0, 1) := by decide +kernel
theorem dX6_addProduct_87 : decode cX6_addProduct 87 = .ok (.getfield 22, 3) := by decide +kernel
theorem dX6_addProduct_90 : decode cX6_addProduct 90 = .ok (.iload 7, 2) := by decide +kernel
theorem dX6_addProduct_92 : decode cX6_addProduct 92 = .ok (.iaload, 1) := by decide +kernel
theorem dX6_addProduct_93 : decode cX6_addProduct 93 = .ok (.iload_n 3, 1) := by decide +kernel
theorem dX6_addProduct_94 : decode cX6_addProduct 94 = .ok (.if_icmp .ne 7, 3) := by decide +kernel
theorem dX6_addProduct_97 : decode cX6_addProduct 97 = .ok (.iconst 1, 1) := by decide +kernel
theorem dX6_addProduct_98 : decode cX6_addProduct 98 = .ok (.goto 4, 3) := by decide +kernel
theorem dX6_addProduct_101 : decode cX6_addProduct 101 = .ok (.iconst 0, 1) := by decide +kernel
theorem dX6_addProduct_102 : decode cX6_addProduct 102 = .ok (.istore 6, 2) := by decide +kernel
theorem dX6_addProduct_104 : decode cX6_addProduct 104 = .ok (.iinc 7 1, 3) := by decide +kernel
theorem dX6_addProduct_107 : decode cX6_addProduct 107 = .ok (.goto (-57), 3) := by decide +kernel
theorem dX6_addProduct_110 : decode cX6_addProduct 110 = .ok (.aload_n 0, 1) := by decide +kernel
theorem dX6_addProduct_111 : decode cX6_addProduct 111 = .ok (.iload 4, 2) := by decide +kernel
theorem dX6_addProduct_113 : decode cX6_addProduct 113 = .ok (.ifCond .ne 7, 3) := by decide +kernel
theorem dX6_addProduct_116 : decode cX6_addProduct 116 = .ok (.iconst 1, 1) := by decide +kernel
theorem dX6_addProduct_117 : decode cX6_addProduct 117 = .ok (.goto 31, 3) := by decide +kernel
theorem dX6_addProduct_120 : decode cX6_addProduct 120 = .ok (.iload 5, 2) := by decide +kernel
theorem dX6_addProduct_122 : decode cX6_addProduct 122 = .ok (.ifCond .ne 7, 3) := by decide +kernel
theorem dX6_addProduct_125 : decode cX6_addProduct 125 = .ok (.iconst 2, 1) := by decide +kernel
theorem dX6_addProduct_126 : decode cX6_addProduct 126 = .ok (.goto 22, 3) := by decide +kernel
theorem dX6_addProduct_129 : decode cX6_addProduct 129 = .ok (.aload_n 0, 1) := by decide +kernel
theorem dX6_addProduct_130 : decode cX6_addProduct 130 = .ok (.getfield 71, 3) := by decide +kernel
theorem dX6_addProduct_133 : decode cX6_addProduct 133 = .ok (.bipush 8, 2) := by decide +kernel
theorem dX6_addProduct_135 : decode cX6_addProduct 135 = .ok (.if_icmp .eq 8, 3) := by decide +kernel
theorem dX6_addProduct_138 : decode cX6_addProduct 138 = .ok (.iload 6, 2) := by decide +kernel
theorem dX6_addProduct_140 : decode cX6_addProduct 140 = .ok (.ifCond .eq 7, 3) := by decide +kernel
theorem dX6_addProduct_143 : decode cX6_addProduct 143 = .ok (.iconst 3, 1) := by decide +kernel
theorem dX6_addProduct_144 : decode cX6_addProduct 144 = .ok (.goto 4, 3) := by decide +kernel
theorem dX6_addProduct_147 : decode cX6_addProduct 147 = .ok (.iconst 0, 1) := by decide +kernel
theorem dX6_addProduct_148 : decode cX6_addProduct 148 = .ok (.invokevirtual 93, 3) := by decide +kernel
theorem dX6_addProduct_151 : decode cX6_addProduct 151 = .ok (.ifCond .eq 5, 3) := by decide +kernel
theorem dX6_addProduct_154 : decode cX6_addProduct 154 = .ok (.iconst 0, 1) := by decide +kernel
theorem dX6_addProduct_155 : decode cX6_addProduct 155 = .ok (.ireturn, 1) := by decide +kernel
theorem dX6_addProduct_156 : decode cX6_addProduct 156 = .ok (.aload_n 0, 1) := by decide +kernel
theorem dX6_addProduct_157 : decode cX6_addProduct 157 = .ok (.getfield 16, 3) := by decide +kernel
theorem dX6_addProduct_160 : decode cX6_addProduct 160 = .ok (.aload_n 0, 1) := by decide +kernel
theorem dX6_addProduct_161 : decode cX6_addProduct 161 = .ok (.getfield 71, 3) := by decide +kernel
theorem dX6_addProduct_164 : decode cX6_addProduct 164 = .ok (.iload_n 1, 1) := by decide +kernel
theorem dX6_addProduct_165 : decode cX6_addProduct 165 = .ok (.iastore, 1) := by decide +kernel
theorem dX6_addProduct_166 : decode cX6_addProduct 166 = .ok (.aload_n 0, 1) := by decide +kernel
theorem dX6_addProduct_167 : decode cX6_addProduct 167 = .ok (.getfield 19, 3) := by decide +kernel
theorem dX6_addProduct_170 : decode cX6_addProduct 170 = .ok (.aload_n 0, 1) := by decide +kernel
theorem dX6_addProduct_171 : decode cX6_addProduct 171 = .ok (.getfield 71, 3) := by decide +kernel
theorem dX6_addProduct_174 : decode cX6_addProduct 174 = .ok (.iload_n 2, 1) := by decide +kernel
theorem dX6_addProduct_175 : decode cX6_addProduct 175 = .ok (.iastore, 1) := by decide +kernel
theorem dX6_addProduct_176 : decode cX6_addProduct 176 = .ok (.aload_n 0, 1) := by decide +kernel
theorem dX6_addProduct_177 : decode cX6_addProduct 177 = .ok (.getfield 22, 3) := by decide +kernel
theorem dX6_addProduct_180 : decode cX6_addProduct 180 = .ok (.aload_n 0, 1) := by decide +kernel
theorem dX6_addProduct_181 : decode cX6_addProduct 181 = .ok (.getfield 71, 3) := by decide +kernel
theorem dX6_addProduct_184 : decode cX6_addProduct 184 = .ok (.iload_n 3, 1) := by decide +kernel
theorem dX6_addProduct_185 : decode cX6_addProduct 185 = .ok (.iastore, 1) := by decide +kernel
theorem dX6_addProduct_186 : decode cX6_addProduct 186 = .ok (.aload_n 0, 1) := by decide +kernel
theorem dX6_addProduct_187 : decode cX6_addProduct 187 = .ok (.getfield 35, 3) := by decide +kernel
theorem dX6_addProduct_190 : decode cX6_addProduct 190 = .ok (.bipush 21, 2) := by decide +kernel
theorem dX6_addProduct_192 : decode cX6_addProduct 192 = .ok (.aload_n 0, 1) := by decide +kernel
theorem dX6_addProduct_193 : decode cX6_addProduct 193 = .ok (.getfield 71, 3) := by decide +kernel
theorem dX6_addProduct_196 : decode cX6_addProduct 196 = .ok (.imul, 1) := by decide +kernel
theorem dX6_addProduct_197 : decode cX6_addProduct 197 = .ok (.aload_n 0, 1) := by decide +kernel
theorem dX6_addProduct_198 : decode cX6_addProduct 198 = .ok (.getfield 99, 3) := by decide +kernel
theorem dX6_addProduct_201 : decode cX6_addProduct 201 = .ok (.iastore, 1) := by decide +kernel
theorem dX6_addProduct_202 : decode cX6_addProduct 202 = .ok (.aload_n 0, 1) := by decide +kernel
theorem dX6_addProduct_203 : decode cX6_addProduct 203 = .ok (.dup, 1) := by decide +kernel
theorem dX6_addProduct_204 : decode cX6_addProduct 204 = .ok (.getfield 71, 3) := by decide +kernel
theorem dX6_addProduct_207 : decode cX6_addProduct 207 = .ok (.iconst 1, 1) := by decide +kernel
theorem dX6_addProduct_208 : decode cX6_addProduct 208 = .ok (.iadd, 1) := by decide +kernel
theorem dX6_addProduct_209 : decode cX6_addProduct 209 = .ok (.putfield 71, 3) := by decide +kernel
theorem dX6_addProduct_212 : decode cX6_addProduct 212 = .ok (.aload_n 0, 1) := by decide +kernel
theorem dX6_addProduct_213 : decode cX6_addProduct 213 = .ok (.getfield 71, 3) := by decide +kernel
theorem dX6_addProduct_216 : decode cX6_addProduct 216 = .ok (.iconst 1, 1) := by decide +kernel
theorem dX6_addProduct_217 : decode cX6_addProduct 217 = .ok (.isub, 1) := by decide +kernel
theorem dX6_addProduct_218 : decode cX6_addProduct 218 = .ok (.ireturn, 1) := by decide +kernel
set_option maxRecDepth 20000 in
theorem ggX6_setExpected_X6_isProduct : GoodIn wsX6_setExpected wsX6_isProduct := goodIn_r _ [6, 7, 8, 9, 5, 10, 16, 17, 18, 19, 20, 21, 22, 23, 24, 25, 26, 27, 28, 29, 30, 31, 32, 33, 34, 35, 36, 37] (by decide +kernel) (by decide +kernel)
set_option maxRecDepth 20000 in
theorem gX6_setExpected_X6_isProduct : GoodIn wsX6_setExpected (wsV RX6 102 RX6 yX6_isProduct wsX6_isProduct) := goodIn_app (goodIn_of _ (by decide +kernel)) ggX6_setExpected_X6_isProduct
set_option maxRecDepth 20000 in
theorem ggX6_setExpected_X6_isIn : GoodIn wsX6_setExpected wsX6_isIn := goodIn_r _ [10] (by decide +kernel) (by decide +kernel)
set_option maxRecDepth 20000 in
theorem gX6_setExpected_X6_isIn : GoodIn wsX6_setExpected (va_wsS RX6 67 yX6_isIn wsX6_isIn) := goodIn_app (goodIn_of _ (by decide +kernel)) ggX6_setExpected_X6_isIn
set_option maxRecDepth 20000 in
theorem ggX6_setExpected_X6_fails : GoodIn wsX6_setExpected wsX6_fails := goodIn_r _ [14, 15, 16, 17, 18, 19, 20, 21, 22, 23, 24, 25, 26, 27, 28, 29, 30, 31, 32, 33, 34, 35, 36, 37] (by decide +kernel) (by decide +kernel)
set_option maxRecDepth 20000 in
theorem gX6_setExpected_X6_fails : GoodIn wsX6_setExpected (wsV RX6 93 RX6 yX6_fails wsX6_fails) := goodIn_app (goodIn_of _ (by decide +kernel)) ggX6_setExpected_X6_fails
theorem dX6_setExpected_0 : decode cX6_setExpected 0 = .ok (.aload_n 0, 1) := by decide +kernel
theorem dX6_setExpected_1 : decode cX6_setExpected 1 = .ok (.aload_n 0, 1) := by decide +kernel
theorem dX6_setExpected_2 : decode cX6_setExpected 2 = .ok (.iload_n 1, 1) := by decide +kernel
theorem dX6_setExpected_3 : decode cX6_setExpected 3 = .ok (.invokevirtual 102, 3) := by decide +kernel
theorem dX6_setExpected_6 : decode cX6_setExpected 6 = .ok (.ifCond .ne 7, 3) := by decide +kernel
theorem dX6_setExpected_9 : decode cX6_setExpected 9 = .ok (.iconst 1, 1) := by decide +kernel
theorem dX6_setExpected_10 : decode cX6_setExpected 10 = .ok (.goto 18, 3) := by decide +kernel
theorem dX6_setExpected_13 : decode cX6_setExpected 13 = .ok (.iload_n 2, 1) := by decide +kernel
theorem dX6_setExpected_14 : decode cX6_setExpected 14 = .ok (.iconst 0, 1) := by decide +kernel
theorem dX6_setExpected_15 : decode cX6_setExpected 15 = .ok (.bipush 20, 2) := by decide +kernel
theorem dX6_setExpected_17 : decode cX6_setExpected 17 = .ok (.invokestatic 67, 3) := by decide +kernel
theorem dX6_setExpected_20 : decode cX6_setExpected 20 = .ok (.ifCond .eq 7, 3) := by decide +kernel
theorem dX6_setExpected_23 : decode cX6_setExpected 23 = .ok (.iconst 0, 1) := by decide +kernel
theorem dX6_setExpected_24 : decode cX6_setExpected 24 = .ok (.goto 4, 3) := by decide +kernel
theorem dX6_setExpected_27 : decode cX6_setExpected 27 = .ok (.iconst 2, 1) := by decide +kernel
theorem dX6_setExpected_28 : decode cX6_setExpected 28 = .ok (.invokevirtual 93, 3) := by decide +kernel
theorem dX6_setExpected_31 : decode cX6_setExpected 31 = .ok (.ifCond .eq 5, 3) := by decide +kernel
theorem dX6_setExpected_34 : decode cX6_setExpected 34 = .ok (.iconst 0, 1) := by decide +kernel
theorem dX6_setExpected_35 : decode cX6_setExpected 35 = .ok (.ireturn, 1) := by decide +kernel
theorem dX6_setExpected_36 : decode cX6_setExpected 36 = .ok (.aload_n 0, 1) := by decide +kernel
theorem dX6_setExpected_37 : decode cX6_setExpected 37 = .ok (.getfield 25, 3) := by decide +kernel
theorem dX6_setExpected_40 : decode cX6_setExpected 40 = .ok (.iload_n 1, 1) := by decide +kernel
theorem dX6_setExpected_41 : decode cX6_setExpected 41 = .ok (.iaload, 1) := by decide +kernel
theorem dX6_setExpected_42 : decode cX6_setExpected 42 = .ok (.istore_n 3, 1) := by decide +kernel
theorem dX6_setExpected_43 : decode cX6_setExpected 43 = .ok (.aload_n 0, 1) := by decide +kernel
theorem dX6_setExpected_44 : decode cX6_setExpected 44 = .ok (.getfield 25, 3) := by decide +kernel
theorem dX6_setExpected_47 : decode cX6_setExpected 47 = .ok (.iload_n 1, 1) := by decide +kernel
theorem dX6_setExpected_48 : decode cX6_setExpected 48 = .ok (.iload_n 2, 1) := by decide +kernel
theorem dX6_setExpected_49 : decode cX6_setExpected 49 = .ok (.iastore, 1) := by decide +kernel
theorem dX6_setExpected_50 : decode cX6_setExpected 50 = .ok (.iload_n 3, 1) := by decide +kernel
theorem dX6_setExpected_51 : decode cX6_setExpected 51 = .ok (.ireturn, 1) := by decide +kernel
set_option maxRecDepth 20000 in
theorem ggX6_setRate_X6_isIn : GoodIn wsX6_setRate wsX6_isIn := goodIn_r _ [5] (by decide +kernel) (by decide +kernel)
set_option maxRecDepth 20000 in
theorem gX6_setRate_X6_isIn : GoodIn wsX6_setRate (va_wsS RX6 67 yX6_isIn wsX6_isIn) := goodIn_app (goodIn_of _ (by decide +kernel)) ggX6_setRate_X6_isIn
set_option maxRecDepth 20000 in
theorem ggX6_setRate_X6_fails : GoodIn wsX6_setRate wsX6_fails := goodIn_r _ [9, 10, 11, 12, 13, 14, 15, 16, 17, 18, 19, 20, 21, 22, 23, 24, 25, 26, 27, 28, 29, 30, 31, 32] (by decide +kernel) (by decide +kernel)
set_option maxRecDepth 20000 in
theorem gX6_setRate_X6_fails : GoodIn wsX6_setRate (wsV RX6 93 RX6 yX6_fails wsX6_fails) := goodIn_app (goodIn_of _ (by decide +kernel)) ggX6_setRate_X6_fails
theorem dX6_setRate_0 : decode cX6_setRate 0 = .ok (.aload_n 0, 1) := by decide +kernel
theorem dX6_setRate_1 : decode cX6_setRate 1 = .ok (.iload_n 1, 1) := by decide +kernel
theorem dX6_setRate_2 : decode cX6_setRate 2 = .ok (.bipush 50, 2) := by decide +kernel
theorem dX6_setRate_4 : decode cX6_setRate 4 = .ok (.bipush 100, 2) := by decide +kernel
theorem dX6_setRate_6 : decode cX6_setRate 6 = .ok (.invokestatic 67, 3) := by decide +kernel
theorem dX6_setRate_9 : decode cX6_setRate 9 = .ok (.ifCond .eq 7, 3) := by decide +kernel
theorem dX6_setRate_12 : decode cX6_setRate 12 = .ok (.iconst 0, 1) := by decide +kernel
theorem dX6_setRate_13 : decode cX6_setRate 13 = .ok (.goto 4, 3) := by decide +kernel
theorem dX6_setRate_16 : decode cX6_setRate 16 = .ok (.iconst 1, 1) := by decide +kernel
theorem dX6_setRate_17 : decode cX6_setRate 17 = .ok (.invokevirtual 93, 3) := by decide +kernel
theorem dX6_setRate_20 : decode cX6_setRate 20 = .ok (.ifCond .eq 5, 3) := by decide +kernel
theorem dX6_setRate_23 : decode cX6_setRate 23 = .ok (.iconst 0, 1) := by decide +kernel
theorem dX6_setRate_24 : decode cX6_setRate 24 = .ok (.ireturn, 1) := by decide +kernel
theorem dX6_setRate_25 : decode cX6_setRate 25 = .ok (.aload_n 0, 1) := by decide +kernel
theorem dX6_setRate_26 : decode cX6_setRate 26 = .ok (.getfield 38, 3) := by decide +kernel
theorem dX6_setRate_29 : decode cX6_setRate 29 = .ok (.istore_n 2, 1) := by decide +kernel
theorem dX6_setRate_30 : decode cX6_setRate 30 = .ok (.aload_n 0, 1) := by decide +kernel
theorem dX6_setRate_31 : decode cX6_setRate 31 = .ok (.iload_n 1, 1) := by decide +kernel
theorem dX6_setRate_32 : decode cX6_setRate 32 = .ok (.putfield 38, 3) := by decide +kernel
theorem dX6_setRate_35 : decode cX6_setRate 35 = .ok (.iload_n 2, 1) := by decide +kernel
theorem dX6_setRate_36 : decode cX6_setRate 36 = .ok (.ireturn, 1) := by decide +kernel
theorem dX6_authorisedOf_0 : decode cX6_authorisedOf 0 = .ok (.aload_n 0, 1) := by decide +kernel
theorem dX6_authorisedOf_1 : decode cX6_authorisedOf 1 = .ok (.getfield 7, 3) := by decide +kernel
theorem dX6_authorisedOf_4 : decode cX6_authorisedOf 4 = .ok (.iload_n 1, 1) := by decide +kernel
theorem dX6_authorisedOf_5 : decode cX6_authorisedOf 5 = .ok (.iaload, 1) := by decide +kernel
theorem dX6_authorisedOf_6 : decode cX6_authorisedOf 6 = .ok (.aload_n 0, 1) := by decide +kernel
theorem dX6_authorisedOf_7 : decode cX6_authorisedOf 7 = .ok (.getfield 7, 3) := by decide +kernel
theorem dX6_authorisedOf_10 : decode cX6_authorisedOf 10 = .ok (.iload_n 1, 1) := by decide +kernel
theorem dX6_authorisedOf_11 : decode cX6_authorisedOf 11 = .ok (.iaload, 1) := by decide +kernel
theorem dX6_authorisedOf_12 : decode cX6_authorisedOf 12 = .ok (.bipush 100, 2) := by decide +kernel
theorem dX6_authorisedOf_14 : decode cX6_authorisedOf 14 = .ok (.aload_n 0, 1) := by decide +kernel
theorem dX6_authorisedOf_15 : decode cX6_authorisedOf 15 = .ok (.getfield 38, 3) := by decide +kernel
theorem dX6_authorisedOf_18 : decode cX6_authorisedOf 18 = .ok (.isub, 1) := by decide +kernel
theorem dX6_authorisedOf_19 : decode cX6_authorisedOf 19 = .ok (.imul, 1) := by decide +kernel
theorem dX6_authorisedOf_20 : decode cX6_authorisedOf 20 = .ok (.bipush 100, 2) := by decide +kernel
theorem dX6_authorisedOf_22 : decode cX6_authorisedOf 22 = .ok (.idiv, 1) := by decide +kernel
theorem dX6_authorisedOf_23 : decode cX6_authorisedOf 23 = .ok (.iadd, 1) := by decide +kernel
theorem dX6_authorisedOf_24 : decode cX6_authorisedOf 24 = .ok (.ireturn, 1) := by decide +kernel
set_option maxRecDepth 20000 in
theorem ggX6_protectedOf_X6_isIn : GoodIn wsX6_protectedOf wsX6_isIn := goodIn_r _ [10] (by decide +kernel) (by decide +kernel)
set_option maxRecDepth 20000 in
theorem gX6_protectedOf_X6_isIn : GoodIn wsX6_protectedOf (va_wsS RX6 67 yX6_isIn wsX6_isIn) := goodIn_app (goodIn_of _ (by decide +kernel)) ggX6_protectedOf_X6_isIn
theorem dX6_protectedOf_0 : decode cX6_protectedOf 0 = .ok (.iconst 0, 1) := by decide +kernel
theorem dX6_protectedOf_1 : decode cX6_protectedOf 1 = .ok (.istore_n 3, 1) := by decide +kernel
theorem dX6_protectedOf_2 : decode cX6_protectedOf 2 = .ok (.iconst 0, 1) := by decide +kernel
theorem dX6_protectedOf_3 : decode cX6_protectedOf 3 = .ok (.istore 4, 2) := by decide +kernel
theorem dX6_protectedOf_5 : decode cX6_protectedOf 5 = .ok (.iload 4, 2) := by decide +kernel
theorem dX6_protectedOf_7 : decode cX6_protectedOf 7 = .ok (.aload_n 0, 1) := by decide +kernel
theorem dX6_protectedOf_8 : decode cX6_protectedOf 8 = .ok (.getfield 71, 3) := by decide +kernel
theorem dX6_protectedOf_11 : decode cX6_protectedOf 11 = .ok (.if_icmp .ge 144, 3) := by decide +kernel
theorem dX6_protectedOf_14 : decode cX6_protectedOf 14 = .ok (.iload_n 1, 1) := by decide +kernel
theorem dX6_protectedOf_15 : decode cX6_protectedOf 15 = .ok (.aload_n 0, 1) := by decide +kernel
theorem dX6_protectedOf_16 : decode cX6_protectedOf 16 = .ok (.getfield 16, 3) := by decide +kernel
theorem dX6_protectedOf_19 : decode cX6_protectedOf 19 = .ok (.iload 4, 2) := by decide +kernel
theorem dX6_protectedOf_21 : decode cX6_protectedOf 21 = .ok (.iaload, 1) := by decide +kernel
theorem dX6_protectedOf_22 : decode cX6_protectedOf 22 = .ok (.aload_n 0, 1) := by decide +kernel
theorem dX6_protectedOf_23 : decode cX6_protectedOf 23 = .ok (.getfield 19, 3) := by decide +kernel
theorem dX6_protectedOf_26 : decode cX6_protectedOf 26 = .ok (.iload 4, 2) := by decide +kernel
theorem dX6_protectedOf_28 : decode cX6_protectedOf 28 = .ok (.iaload, 1) := by decide +kernel
theorem dX6_protectedOf_29 : decode cX6_protectedOf 29 = .ok (.invokestatic 67, 3) := by decide +kernel
theorem dX6_protectedOf_32 : decode cX6_protectedOf 32 = .ok (.ifCond .eq 117, 3) := by decide +kernel
theorem dX6_protectedOf_35 : decode cX6_protectedOf 35 = .ok (.aload_n 0, 1) := by decide +kernel
theorem dX6_protectedOf_36 : decode cX6_protectedOf 36 = .ok (.getfield 22, 3) := by decide +kernel
theorem dX6_protectedOf_39 : decode cX6_protectedOf 39 = .ok (.iload 4, 2) := by decide +kernel
theorem dX6_protectedOf_41 : decode cX6_protectedOf 41 = .ok (.iaload, 1) := by decide +kernel
theorem dX6_protectedOf_42 : decode cX6_protectedOf 42 = .ok (.iload_n 2, 1) := by decide +kernel
theorem dX6_protectedOf_43 : decode cX6_protectedOf 43 = .ok (.if_icmp .le 106, 3) := by decide +kernel
theorem dX6_protectedOf_46 : decode cX6_protectedOf 46 = .ok (.aload_n 0, 1) := by decide +kernel
theorem dX6_protectedOf_47 : decode cX6_protectedOf 47 = .ok (.getfield 99, 3) := by decide +kernel
theorem dX6_protectedOf_50 : decode cX6_protectedOf 50 = .ok (.ifCond .le 99, 3) := by decide +kernel
theorem dX6_protectedOf_53 : decode cX6_protectedOf 53 = .ok (.iconst 0, 1) := by decide +kernel
theorem dX6_protectedOf_54 : decode cX6_protectedOf 54 = .ok (.istore 5, 2) := by decide +kernel
theorem dX6_protectedOf_56 : decode cX6_protectedOf 56 = .ok (.iconst 0, 1) := by decide +kernel
theorem dX6_protectedOf_57 : decode cX6_protectedOf 57 = .ok (.istore 6, 2) := by decide +kernel
theorem dX6_protectedOf_59 : decode cX6_protectedOf 59 = .ok (.bipush 20, 2) := by decide +kernel
theorem dX6_protectedOf_61 : decode cX6_protectedOf 61 = .ok (.istore 7, 2) := by decide +kernel
theorem dX6_protectedOf_63 : decode cX6_protectedOf 63 = .ok (.iload 7, 2) := by decide +kernel
theorem dX6_protectedOf_65 : decode cX6_protectedOf 65 = .ok (.ifCond .lt 79, 3) := by decide +kernel
theorem dX6_protectedOf_68 : decode cX6_protectedOf 68 = .ok (.iload 5, 2) := by decide +kernel
theorem dX6_protectedOf_70 : decode cX6_protectedOf 70 = .ok (.aload_n 0, 1) := by decide +kernel
theorem dX6_protectedOf_71 : decode cX6_protectedOf 71 = .ok (.getfield 35, 3) := by decide +kernel
theorem dX6_protectedOf_74 : decode cX6_protectedOf 74 = .ok (.bipush 21, 2) := by decide +kernel
theorem dX6_protectedOf_76 : decode cX6_protectedOf 76 = .ok (.iload 4, 2) := by decide +kernel
theorem dX6_protectedOf_78 : decode cX6_protectedOf 78 = .ok (.imul, 1) := by decide +kernel
theorem dX6_protectedOf_79 : decode cX6_protectedOf 79 = .ok (.iload 7, 2) := by decide +kernel
theorem dX6_protectedOf_81 : decode cX6_protectedOf 81 = .ok (.iadd, 1) := by decide +kernel
theorem dX6_protectedOf_82 : decode cX6_protectedOf 82 = .ok (.iaload, 1) := by decide +kernel
theorem dX6_protectedOf_83 : decode cX6_protectedOf 83 = .ok (.iadd, 1) := by decide +kernel
theorem dX6_protectedOf_84 : decode cX6_protectedOf 84 = .ok (.istore 5, 2) := by decide +kernel
theorem dX6_protectedOf_86 : decode cX6_protectedOf 86 = .ok (.aload_n 0, 1) := by decide +kernel
theorem dX6_protectedOf_87 : decode cX6_protectedOf 87 = .ok (.getfield 22, 3) := by decide +kernel
theorem dX6_protectedOf_90 : decode cX6_protectedOf 90 = .ok (.iload 4, 2) := by decide +kernel
theorem dX6_protectedOf_92 : decode cX6_protectedOf 92 = .ok (.iaload, 1) := by decide +kernel
theorem dX6_protectedOf_93 : decode cX6_protectedOf 93 = .ok (.i2l, 1) := by decide +kernel
theorem dX6_protectedOf_94 : decode cX6_protectedOf 94 = .ok (.iload 5, 2) := by decide +kernel
theorem dX6_protectedOf_96 : decode cX6_protectedOf 96 = .ok (.i2l, 1) := by decide +kernel
theorem dX6_protectedOf_97 : decode cX6_protectedOf 97 = .ok (.lmul, 1) := by decide +kernel
theorem dX6_protectedOf_98 : decode cX6_protectedOf 98 = .ok (.iload_n 2, 1) := by decide +kernel
theorem dX6_protectedOf_99 : decode cX6_protectedOf 99 = .ok (.i2l, 1) := by decide +kernel
theorem dX6_protectedOf_100 : decode cX6_protectedOf 100 = .ok (.aload_n 0, 1) := by decide +kernel
theorem dX6_protectedOf_101 : decode cX6_protectedOf 101 = .ok (.getfield 99, 3) := by decide +kernel
theorem dX6_protectedOf_104 : decode cX6_protectedOf 104 = .ok (.i2l, 1) := by decide +kernel
theorem dX6_protectedOf_105 : decode cX6_protectedOf 105 = .ok (.lmul, 1) := by decide +kernel
theorem dX6_protectedOf_106 : decode cX6_protectedOf 106 = .ok (.lcmp, 1) := by decide +kernel
theorem dX6_protectedOf_107 : decode cX6_protectedOf 107 = .ok (.ifCond .lt 7, 3) := by decide +kernel
theorem dX6_protectedOf_110 : decode cX6_protectedOf 110 = .ok (.iconst 1, 1) := by decide +kernel
theorem dX6_protectedOf_111 : decode cX6_protectedOf 111 = .ok (.goto 4, 3) := by decide +kernel
theorem dX6_protectedOf_114 : decode cX6_protectedOf 114 = .ok (.iconst 0, 1) := by decide +kernel
theorem dX6_protectedOf_115 : decode cX6_protectedOf 115 = .ok (.istore 8, 2) := by decide +kernel
theorem dX6_protectedOf_117 : decode cX6_protectedOf 117 = .ok (.iload 8, 2) := by decide +kernel
theorem dX6_protectedOf_119 : decode cX6_protectedOf 119 = .ok (.ifCond .eq 15, 3) := by decide +kernel
theorem dX6_protectedOf_122 : decode cX6_protectedOf 122 = .ok (.iload 7, 2) := by decide +kernel
theorem dX6_protectedOf_124 : decode cX6_protectedOf 124 = .ok (.iload 6, 2) := by decide +kernel
theorem dX6_protectedOf_126 : decode cX6_protectedOf 126 = .ok (.if_icmp .le 8, 3) := by decide +kernel
theorem dX6_protectedOf_129 : decode cX6_protectedOf 129 = .ok (.iload 7, 2) := by decide +kernel
theorem dX6_protectedOf_131 : decode cX6_protectedOf 131 = .ok (.goto 5, 3) := by decide +kernel
theorem dX6_protectedOf_134 : decode cX6_protectedOf 134 = .ok (.iload 6, 2) := by decide +kernel
theorem dX6_protectedOf_136 : decode cX6_protectedOf 136 = .ok (.istore 6, 2) := by decide +kernel
theorem dX6_protectedOf_138 : decode cX6_protectedOf 138 = .ok (.iinc 7 (-1), 3) := by decide +kernel
theorem dX6_protectedOf_141 : decode cX6_protectedOf 141 = .ok (.goto (-78), 3) := by decide +kernel
theorem dX6_protectedOf_144 : decode cX6_protectedOf 144 = .ok (.iload_n 3, 1) := by decide +kernel
theorem dX6_protectedOf_145 : decode cX6_protectedOf 145 = .ok (.iload 6, 2) := by decide +kernel
theorem dX6_protectedOf_147 : decode cX6_protectedOf 147 = .ok (.iadd, 1) := by decide +kernel
theorem dX6_protectedOf_148 : decode cX6_protectedOf 148 = .ok (.istore_n 3, 1) := by decide +kernel
theorem dX6_protectedOf_149 : decode cX6_protectedOf 149 = .ok (.iinc 4 1, 3) := by decide +kernel
theorem dX6_protectedOf_152 : decode cX6_protectedOf 152 = .ok (.goto (-147), 3) := by decide +kernel
theorem dX6_protectedOf_155 : decode cX6_protectedOf 155 = .ok (.iload_n 3, 1) := by decide +kernel
theorem dX6_protectedOf_156 : decode cX6_protectedOf 156 = .ok (.ireturn, 1) := by decide +kernel
theorem dX6_books_0 : decode cX6_books 0 = .ok (.aload_n 0, 1) := by decide +kernel
theorem dX6_books_1 : decode cX6_books 1 = .ok (.getfield 42, 3) := by decide +kernel
theorem dX6_books_4 : decode cX6_books 4 = .ok (.aload_n 0, 1) := by decide +kernel
theorem dX6_books_5 : decode cX6_books 5 = .ok (.getfield 105, 3) := by decide +kernel
theorem dX6_books_8 : decode cX6_books 8 = .ok (.iload_n 1, 1) := by decide +kernel
theorem dX6_books_9 : decode cX6_books 9 = .ok (.iastore, 1) := by decide +kernel
theorem dX6_books_10 : decode cX6_books 10 = .ok (.aload_n 0, 1) := by decide +kernel
theorem dX6_books_11 : decode cX6_books 11 = .ok (.getfield 45, 3) := by decide +kernel
theorem dX6_books_14 : decode cX6_books 14 = .ok (.aload_n 0, 1) := by decide +kernel
theorem dX6_books_15 : decode cX6_books 15 = .ok (.getfield 105, 3) := by decide +kernel
theorem dX6_books_18 : decode cX6_books 18 = .ok (.iload_n 2, 1) := by decide +kernel
theorem dX6_books_19 : decode cX6_books 19 = .ok (.iastore, 1) := by decide +kernel
theorem dX6_books_20 : decode cX6_books 20 = .ok (.aload_n 0, 1) := by decide +kernel
theorem dX6_books_21 : decode cX6_books 21 = .ok (.getfield 48, 3) := by decide +kernel
theorem dX6_books_24 : decode cX6_books 24 = .ok (.aload_n 0, 1) := by decide +kernel
theorem dX6_books_25 : decode cX6_books 25 = .ok (.getfield 105, 3) := by decide +kernel
theorem dX6_books_28 : decode cX6_books 28 = .ok (.iload_n 3, 1) := by decide +kernel
theorem dX6_books_29 : decode cX6_books 29 = .ok (.iastore, 1) := by decide +kernel
theorem dX6_books_30 : decode cX6_books 30 = .ok (.aload_n 0, 1) := by decide +kernel
theorem dX6_books_31 : decode cX6_books 31 = .ok (.getfield 51, 3) := by decide +kernel
theorem dX6_books_34 : decode cX6_books 34 = .ok (.aload_n 0, 1) := by decide +kernel
theorem dX6_books_35 : decode cX6_books 35 = .ok (.getfield 105, 3) := by decide +kernel
theorem dX6_books_38 : decode cX6_books 38 = .ok (.iload 4, 2) := by decide +kernel
theorem dX6_books_40 : decode cX6_books 40 = .ok (.iastore, 1) := by decide +kernel
theorem dX6_books_41 : decode cX6_books 41 = .ok (.aload_n 0, 1) := by decide +kernel
theorem dX6_books_42 : decode cX6_books 42 = .ok (.getfield 54, 3) := by decide +kernel
theorem dX6_books_45 : decode cX6_books 45 = .ok (.aload_n 0, 1) := by decide +kernel
theorem dX6_books_46 : decode cX6_books 46 = .ok (.getfield 105, 3) := by decide +kernel
theorem dX6_books_49 : decode cX6_books 49 = .ok (.iconst 0, 1) := by decide +kernel
theorem dX6_books_50 : decode cX6_books 50 = .ok (.bastore, 1) := by decide +kernel
theorem dX6_books_51 : decode cX6_books 51 = .ok (.iload_n 1, 1) := by decide +kernel
theorem dX6_books_52 : decode cX6_books 52 = .ok (.istore 5, 2) := by decide +kernel
theorem dX6_books_54 : decode cX6_books 54 = .ok (.iload 5, 2) := by decide +kernel
theorem dX6_books_56 : decode cX6_books 56 = .ok (.iload_n 2, 1) := by decide +kernel
theorem dX6_books_57 : decode cX6_books 57 = .ok (.if_icmp .gt 20, 3) := by decide +kernel
theorem dX6_books_60 : decode cX6_books 60 = .ok (.aload_n 0, 1) := by decide +kernel
theorem dX6_books_61 : decode cX6_books 61 = .ok (.getfield 13, 3) := by decide +kernel
theorem dX6_books_64 : decode cX6_books 64 = .ok (.iload 5, 2) := by decide +kernel
theorem dX6_books_66 : decode cX6_books 66 = .ok (.dup2, 1) := by decide +kernel
theorem dX6_books_67 : decode cX6_books 67 = .ok (.iaload, 1) := by decide +kernel
theorem dX6_books_68 : decode cX6_books 68 = .ok (.iload_n 3, 1) := by decide +kernel
theorem dX6_books_69 : decode cX6_books 69 = .ok (.iadd, 1) := by decide +kernel
theorem dX6_books_70 : decode cX6_books 70 = .ok (.iastore, 1) := by decide +kernel
theorem dX6_books_71 : decode cX6_books 71 = .ok (.iinc 5 1, 3) := by decide +kernel
theorem dX6_books_74 : decode cX6_books 74 = .ok (.goto (-20), 3) := by decide +kernel
theorem dX6_books_77 : decode cX6_books 77 = .ok (.aload_n 0, 1) := by decide +kernel
theorem dX6_books_78 : decode cX6_books 78 = .ok (.dup, 1) := by decide +kernel
theorem dX6_books_79 : decode cX6_books 79 = .ok (.getfield 105, 3) := by decide +kernel
theorem dX6_books_82 : decode cX6_books 82 = .ok (.iconst 1, 1) := by decide +kernel
theorem dX6_books_83 : decode cX6_books 83 = .ok (.iadd, 1) := by decide +kernel
theorem dX6_books_84 : decode cX6_books 84 = .ok (.putfield 105, 3) := by decide +kernel
theorem dX6_books_87 : decode cX6_books 87 = .ok (.aload_n 0, 1) := by decide +kernel
theorem dX6_books_88 : decode cX6_books 88 = .ok (.getfield 105, 3) := by decide +kernel
theorem dX6_books_91 : decode cX6_books 91 = .ok (.iconst 1, 1) := by decide +kernel
theorem dX6_books_92 : decode cX6_books 92 = .ok (.isub, 1) := by decide +kernel
theorem dX6_books_93 : decode cX6_books 93 = .ok (.ireturn, 1) := by decide +kernel
theorem dX6_refuses_0 : decode cX6_refuses 0 = .ok (.aload_n 0, 1) := by decide +kernel
theorem dX6_refuses_1 : decode cX6_refuses 1 = .ok (.getfield 58, 3) := by decide +kernel
theorem dX6_refuses_4 : decode cX6_refuses 4 = .ok (.iload_n 1, 1) := by decide +kernel
theorem dX6_refuses_5 : decode cX6_refuses 5 = .ok (.ineg, 1) := by decide +kernel
theorem dX6_refuses_6 : decode cX6_refuses 6 = .ok (.dup2, 1) := by decide +kernel
theorem dX6_refuses_7 : decode cX6_refuses 7 = .ok (.iaload, 1) := by decide +kernel
theorem dX6_refuses_8 : decode cX6_refuses 8 = .ok (.iconst 1, 1) := by decide +kernel
theorem dX6_refuses_9 : decode cX6_refuses 9 = .ok (.iadd, 1) := by decide +kernel
theorem dX6_refuses_10 : decode cX6_refuses 10 = .ok (.iastore, 1) := by decide +kernel
theorem dX6_refuses_11 : decode cX6_refuses 11 = .ok (.iload_n 1, 1) := by decide +kernel
theorem dX6_refuses_12 : decode cX6_refuses 12 = .ok (.ireturn, 1) := by decide +kernel
set_option maxRecDepth 20000 in
theorem ggX6_ask_X6_isProduct : GoodIn wsX6_ask wsX6_isProduct := goodIn_r _ [11, 12, 13, 14, 10, 15, 72, 73, 74, 75, 76, 77, 78, 79, 80, 81, 82, 83, 84, 85, 86, 87, 88, 89, 90, 91, 92, 93] (by decide +kernel) (by decide +kernel)
set_option maxRecDepth 20000 in
theorem gX6_ask_X6_isProduct : GoodIn wsX6_ask (wsV RX6 102 RX6 yX6_isProduct wsX6_isProduct) := goodIn_app (goodIn_of _ (by decide +kernel)) ggX6_ask_X6_isProduct
set_option maxRecDepth 20000 in
theorem ggX6_ask_X6_fails : GoodIn wsX6_ask wsX6_fails := goodIn_r _ [19, 20, 72, 73, 74, 75, 76, 77, 78, 79, 80, 81, 82, 83, 84, 85, 86, 87, 88, 89, 90, 91, 92, 93] (by decide +kernel) (by decide +kernel)
set_option maxRecDepth 20000 in
theorem gX6_ask_X6_fails : GoodIn wsX6_ask (wsV RX6 93 RX6 yX6_fails wsX6_fails) := goodIn_app (goodIn_of _ (by decide +kernel)) ggX6_ask_X6_fails
set_option maxRecDepth 20000 in
theorem ggX6_ask_X6_finds : GoodIn wsX6_ask wsX6_finds := goodIn_r _ [24, 25, 12, 26, 2, 27, 28, 29, 10, 30, 3, 4, 6, 13, 14, 15, 31, 32, 33, 72, 73, 74, 75, 76, 77, 78, 79, 80, 81, 82, 83, 84, 85, 86, 87, 88, 89, 90, 91, 92, 93] (by decide +kernel) (by decide +kernel)
set_option maxRecDepth 20000 in
theorem gX6_ask_X6_finds : GoodIn wsX6_ask (wsV RX6 108 RX6 yX6_finds wsX6_finds) := goodIn_app (goodIn_of _ (by decide +kernel)) ggX6_ask_X6_finds
set_option maxRecDepth 20000 in
theorem ggX6_ask_X6_authorisedOf : GoodIn wsX6_ask wsX6_authorisedOf := goodIn_r _ [37, 38, 39, 72, 73, 74, 75, 76, 77, 78, 79, 80, 81, 82, 83, 84, 85, 86, 87, 88, 89, 90, 91, 92, 93] (by decide +kernel) (by decide +kernel)
set_option maxRecDepth 20000 in
theorem gX6_ask_X6_authorisedOf : GoodIn wsX6_ask (wsV RX6 111 RX6 yX6_authorisedOf wsX6_authorisedOf) := goodIn_app (goodIn_of _ (by decide +kernel)) ggX6_ask_X6_authorisedOf
set_option maxRecDepth 20000 in
theorem ggX6_ask_X6_protectedOf : GoodIn wsX6_ask wsX6_protectedOf := goodIn_r _ [43, 12, 3, 4, 6, 44, 45, 13, 14, 10, 15, 72, 73, 74, 75, 76, 77, 78, 79, 80, 81, 82, 83, 84, 85, 86, 87, 88, 89, 90, 91, 92, 93] (by decide +kernel) (by decide +kernel)
set_option maxRecDepth 20000 in
theorem gX6_ask_X6_protectedOf : GoodIn wsX6_ask (wsV RX6 114 RX6 yX6_protectedOf wsX6_protectedOf) := goodIn_app (goodIn_of _ (by decide +kernel)) ggX6_ask_X6_protectedOf
set_option maxRecDepth 20000 in
theorem ggX6_ask_X6_bidOf : GoodIn wsX6_ask wsX6_bidOf := goodIn_r _ [49, 50, 51, 52, 10, 53, 25, 54, 55, 56, 57, 38, 5, 31, 32, 33, 72, 73, 74, 75, 76, 77, 78, 79, 80, 81, 82, 83, 84, 85, 86, 87, 88, 89, 90, 91, 92, 93] (by decide +kernel) (by decide +kernel)
set_option maxRecDepth 20000 in
theorem gX6_ask_X6_bidOf : GoodIn wsX6_ask (wsV RX6 118 RX6 yX6_bidOf wsX6_bidOf) := goodIn_app (goodIn_of _ (by decide +kernel)) ggX6_ask_X6_bidOf
set_option maxRecDepth 20000 in
theorem ggX6_ask_X6_refuses : GoodIn wsX6_ask wsX6_refuses := goodIn_r _ [61, 62, 72, 73, 74, 75, 76, 77, 78, 79, 80, 81, 82, 83, 84, 85, 86, 87, 88, 89, 90, 91, 92, 93] (by decide +kernel) (by decide +kernel)
set_option maxRecDepth 20000 in
theorem gX6_ask_X6_refuses : GoodIn wsX6_ask (wsV RX6 121 RX6 yX6_refuses wsX6_refuses) := goodIn_app (goodIn_of _ (by decide +kernel)) ggX6_ask_X6_refuses
set_option maxRecDepth 20000 in
theorem ggX6_ask_X6_books : GoodIn wsX6_ask wsX6_books := goodIn_r _ [66, 67, 1, 68, 69, 70, 71, 5, 72, 73, 74, 75, 76, 77, 78, 79, 80, 81, 82, 83, 84, 85, 86, 87, 88, 89, 90, 91, 92, 93] (by decide +kernel) (by decide +kernel)
set_option maxRecDepth 20000 in
theorem gX6_ask_X6_books : GoodIn wsX6_ask (wsV RX6 124 RX6 yX6_books wsX6_books) := goodIn_app (goodIn_of _ (by decide +kernel)) ggX6_ask_X6_books
theorem dX6_ask_0 : decode cX6_ask 0 = .ok (.aload_n 0, 1) := by decide +kernel
theorem dX6_ask_1 : decode cX6_ask 1 = .ok (.aload_n 0, 1) := by decide +kernel
theorem dX6_ask_2 : decode cX6_ask 2 = .ok (.iload_n 1, 1) := by decide +kernel
theorem dX6_ask_3 : decode cX6_ask 3 = .ok (.invokevirtual 102, 3) := by decide +kernel
theorem dX6_ask_6 : decode cX6_ask 6 = .ok (.ifCond .ne 7, 3) := by decide +kernel
theorem dX6_ask_9 : decode cX6_ask 9 = .ok (.iconst 1, 1) := by decide +kernel
theorem dX6_ask_10 : decode cX6_ask 10 = .ok (.goto 17, 3) := by decide +kernel
theorem dX6_ask_13 : decode cX6_ask 13 = .ok (.aload_n 0, 1) := by decide +kernel
theorem dX6_ask_14 : decode cX6_ask 14 = .ok (.getfield 105, 3) := by decide +kernel
theorem dX6_ask_17 : decode cX6_ask 17 = .ok (.bipush 60, 2) := by decide +kernel
theorem dX6_ask_19 : decode cX6_ask 19 = .ok (.if_icmp .ne 7, 3) := by decide +kernel
theorem dX6_ask_22 : decode cX6_ask 22 = .ok (.iconst 2, 1) := by decide +kernel
theorem dX6_ask_23 : decode cX6_ask 23 = .ok (.goto 4, 3) := by decide +kernel
theorem dX6_ask_26 : decode cX6_ask 26 = .ok (.iconst 0, 1) := by decide +kernel
theorem dX6_ask_27 : decode cX6_ask 27 = .ok (.invokevirtual 93, 3) := by decide +kernel
theorem dX6_ask_30 : decode cX6_ask 30 = .ok (.ifCond .eq 5, 3) := by decide +kernel
theorem dX6_ask_33 : decode cX6_ask 33 = .ok (.iconst 0, 1) := by decide +kernel
theorem dX6_ask_34 : decode cX6_ask 34 = .ok (.ireturn, 1) := by decide +kernel
theorem dX6_ask_35 : decode cX6_ask 35 = .ok (.aload_n 0, 1) := by decide +kernel
theorem dX6_ask_36 : decode cX6_ask 36 = .ok (.getfield 28, 3) := by decide +kernel
theorem dX6_ask_39 : decode cX6_ask 39 = .ok (.iload_n 1, 1) := by decide +kernel
theorem dX6_ask_40 : decode cX6_ask 40 = .ok (.dup2, 1) := by decide +kernel
theorem dX6_ask_41 : decode cX6_ask 41 = .ok (.iaload, 1) := by decide +kernel
theorem dX6_ask_42 : decode cX6_ask 42 = .ok (.iconst 1, 1) := by decide +kernel
theorem dX6_ask_43 : decode cX6_ask 43 = .ok (.iadd, 1) := by decide +kernel
theorem dX6_ask_44 : decode cX6_ask 44 = .ok (.iastore, 1) := by decide +kernel
theorem dX6_ask_45 : decode cX6_ask 45 = .ok (.aload_n 0, 1) := by decide +kernel
theorem dX6_ask_46 : decode cX6_ask 46 = .ok (.invokevirtual 108, 3) := by decide +kernel
theorem dX6_ask_49 : decode cX6_ask 49 = .ok (.iconst 0, 1) := by decide +kernel
theorem dX6_ask_50 : decode cX6_ask 50 = .ok (.istore_n 2, 1) := by decide +kernel
theorem dX6_ask_51 : decode cX6_ask 51 = .ok (.iconst 0, 1) := by decide +kernel
theorem dX6_ask_52 : decode cX6_ask 52 = .ok (.istore_n 3, 1) := by decide +kernel
theorem dX6_ask_53 : decode cX6_ask 53 = .ok (.iconst 0, 1) := by decide +kernel
theorem dX6_ask_54 : decode cX6_ask 54 = .ok (.istore 4, 2) := by decide +kernel
theorem dX6_ask_56 : decode cX6_ask 56 = .ok (.aload_n 0, 1) := by decide +kernel
theorem dX6_ask_57 : decode cX6_ask 57 = .ok (.getfield 16, 3) := by decide +kernel
theorem dX6_ask_60 : decode cX6_ask 60 = .ok (.iload_n 1, 1) := by decide +kernel
theorem dX6_ask_61 : decode cX6_ask 61 = .ok (.iaload, 1) := by decide +kernel
theorem dX6_ask_62 : decode cX6_ask 62 = .ok (.istore 5, 2) := by decide +kernel
theorem dX6_ask_64 : decode cX6_ask 64 = .ok (.iload 5, 2) := by decide +kernel
theorem dX6_ask_66 : decode cX6_ask 66 = .ok (.aload_n 0, 1) := by decide +kernel
theorem dX6_ask_67 : decode cX6_ask 67 = .ok (.getfield 19, 3) := by decide +kernel
theorem dX6_ask_70 : decode cX6_ask 70 = .ok (.iload_n 1, 1) := by decide +kernel
theorem dX6_ask_71 : decode cX6_ask 71 = .ok (.iaload, 1) := by decide +kernel
theorem dX6_ask_72 : decode cX6_ask 72 = .ok (.if_icmp .gt 86, 3) := by decide +kernel
theorem dX6_ask_75 : decode cX6_ask 75 = .ok (.iload_n 2, 1) := by decide +kernel
theorem dX6_ask_76 : decode cX6_ask 76 = .ok (.ifCond .ne 19, 3) := by decide +kernel
theorem dX6_ask_79 : decode cX6_ask 79 = .ok (.aload_n 0, 1) := by decide +kernel
theorem dX6_ask_80 : decode cX6_ask 80 = .ok (.getfield 13, 3) := by decide +kernel
theorem dX6_ask_83 : decode cX6_ask 83 = .ok (.iload 5, 2) := by decide +kernel
theorem dX6_ask_85 : decode cX6_ask 85 = .ok (.iaload, 1) := by decide +kernel
theorem dX6_ask_86 : decode cX6_ask 86 = .ok (.aload_n 0, 1) := by decide +kernel
theorem dX6_ask_87 : decode cX6_ask 87 = .ok (.iload 5, 2) := by decide +kernel
theorem dX6_ask_89 : decode cX6_ask 89 = .ok (.invokevirtual 111, 3) := by decide +kernel
theorem dX6_ask_92 : decode cX6_ask 92 = .ok (.if_icmp .lt 7, 3) := by decide +kernel
theorem dX6_ask_95 : decode cX6_ask 95 = .ok (.iconst 1, 1) := by decide +kernel
theorem dX6_ask_96 : decode cX6_ask 96 = .ok (.goto 4, 3) := by decide +kernel
theorem dX6_ask_99 : decode cX6_ask 99 = .ok (.iconst 0, 1) := by decide +kernel
theorem dX6_ask_100 : decode cX6_ask 100 = .ok (.istore_n 2, 1) := by decide +kernel
theorem dX6_ask_101 : decode cX6_ask 101 = .ok (.iload_n 3, 1) := by decide +kernel
theorem dX6_ask_102 : decode cX6_ask 102 = .ok (.ifCond .ne 33, 3) := by decide +kernel
theorem dX6_ask_105 : decode cX6_ask 105 = .ok (.aload_n 0, 1) := by decide +kernel
theorem dX6_ask_106 : decode cX6_ask 106 = .ok (.iload 5, 2) := by decide +kernel
theorem dX6_ask_108 : decode cX6_ask 108 = .ok (.invokevirtual 111, 3) := by decide +kernel
theorem dX6_ask_111 : decode cX6_ask 111 = .ok (.aload_n 0, 1) := by decide +kernel
theorem dX6_ask_112 : decode cX6_ask 112 = .ok (.getfield 13, 3) := by decide +kernel
theorem dX6_ask_115 : decode cX6_ask 115 = .ok (.iload 5, 2) := by decide +kernel
theorem dX6_ask_117 : decode cX6_ask 117 = .ok (.iaload, 1) := by decide +kernel
theorem dX6_ask_118 : decode cX6_ask 118 = .ok (.isub, 1) := by decide +kernel
theorem dX6_ask_119 : decode cX6_ask 119 = .ok (.aload_n 0, 1) := by decide +kernel
theorem dX6_ask_120 : decode cX6_ask 120 = .ok (.iload 5, 2) := by decide +kernel
theorem dX6_ask_122 : decode cX6_ask 122 = .ok (.aload_n 0, 1) := by decide +kernel
theorem dX6_ask_123 : decode cX6_ask 123 = .ok (.getfield 22, 3) := by decide +kernel
theorem dX6_ask_126 : decode cX6_ask 126 = .ok (.iload_n 1, 1) := by decide +kernel
theorem dX6_ask_127 : decode cX6_ask 127 = .ok (.iaload, 1) := by decide +kernel
theorem dX6_ask_128 : decode cX6_ask 128 = .ok (.invokevirtual 114, 3) := by decide +kernel
theorem dX6_ask_131 : decode cX6_ask 131 = .ok (.isub, 1) := by decide +kernel
theorem dX6_ask_132 : decode cX6_ask 132 = .ok (.ifCond .gt 7, 3) := by decide +kernel
theorem dX6_ask_135 : decode cX6_ask 135 = .ok (.iconst 1, 1) := by decide +kernel
theorem dX6_ask_136 : decode cX6_ask 136 = .ok (.goto 4, 3) := by decide +kernel
theorem dX6_ask_139 : decode cX6_ask 139 = .ok (.iconst 0, 1) := by decide +kernel
theorem dX6_ask_140 : decode cX6_ask 140 = .ok (.istore_n 3, 1) := by decide +kernel
theorem dX6_ask_141 : decode cX6_ask 141 = .ok (.iload 4, 2) := by decide +kernel
theorem dX6_ask_143 : decode cX6_ask 143 = .ok (.aload_n 0, 1) := by decide +kernel
theorem dX6_ask_144 : decode cX6_ask 144 = .ok (.iload 5, 2) := by decide +kernel
theorem dX6_ask_146 : decode cX6_ask 146 = .ok (.invokevirtual 118, 3) := by decide +kernel
theorem dX6_ask_149 : decode cX6_ask 149 = .ok (.iadd, 1) := by decide +kernel
theorem dX6_ask_150 : decode cX6_ask 150 = .ok (.istore 4, 2) := by decide +kernel
theorem dX6_ask_152 : decode cX6_ask 152 = .ok (.iinc 5 1, 3) := by decide +kernel
theorem dX6_ask_155 : decode cX6_ask 155 = .ok (.goto (-91), 3) := by decide +kernel
theorem dX6_ask_158 : decode cX6_ask 158 = .ok (.iload_n 2, 1) := by decide +kernel
theorem dX6_ask_159 : decode cX6_ask 159 = .ok (.ifCond .eq 7, 3) := by decide +kernel
theorem dX6_ask_162 : decode cX6_ask 162 = .ok (.iconst (-1), 1) := by decide +kernel
theorem dX6_ask_163 : decode cX6_ask 163 = .ok (.goto 29, 3) := by decide +kernel
theorem dX6_ask_166 : decode cX6_ask 166 = .ok (.iload_n 3, 1) := by decide +kernel
theorem dX6_ask_167 : decode cX6_ask 167 = .ok (.ifCond .eq 8, 3) := by decide +kernel
theorem dX6_ask_170 : decode cX6_ask 170 = .ok (.bipush (-2), 2) := by decide +kernel
theorem dX6_ask_172 : decode cX6_ask 172 = .ok (.goto 20, 3) := by decide +kernel
theorem dX6_ask_175 : decode cX6_ask 175 = .ok (.aload_n 0, 1) := by decide +kernel
theorem dX6_ask_176 : decode cX6_ask 176 = .ok (.getfield 22, 3) := by decide +kernel
theorem dX6_ask_179 : decode cX6_ask 179 = .ok (.iload_n 1, 1) := by decide +kernel
theorem dX6_ask_180 : decode cX6_ask 180 = .ok (.iaload, 1) := by decide +kernel
theorem dX6_ask_181 : decode cX6_ask 181 = .ok (.iload 4, 2) := by decide +kernel
theorem dX6_ask_183 : decode cX6_ask 183 = .ok (.if_icmp .ge 8, 3) := by decide +kernel
theorem dX6_ask_186 : decode cX6_ask 186 = .ok (.bipush (-3), 2) := by decide +kernel
theorem dX6_ask_188 : decode cX6_ask 188 = .ok (.goto 4, 3) := by decide +kernel
theorem dX6_ask_191 : decode cX6_ask 191 = .ok (.iconst 0, 1) := by decide +kernel
theorem dX6_ask_192 : decode cX6_ask 192 = .ok (.istore 5, 2) := by decide +kernel
theorem dX6_ask_194 : decode cX6_ask 194 = .ok (.iload 5, 2) := by decide +kernel
theorem dX6_ask_196 : decode cX6_ask 196 = .ok (.ifCond .ge 12, 3) := by decide +kernel
theorem dX6_ask_199 : decode cX6_ask 199 = .ok (.aload_n 0, 1) := by decide +kernel
theorem dX6_ask_200 : decode cX6_ask 200 = .ok (.iload 5, 2) := by decide +kernel
theorem dX6_ask_202 : decode cX6_ask 202 = .ok (.invokevirtual 121, 3) := by decide +kernel
theorem dX6_ask_205 : decode cX6_ask 205 = .ok (.goto 26, 3) := by decide +kernel
theorem dX6_ask_208 : decode cX6_ask 208 = .ok (.aload_n 0, 1) := by decide +kernel
theorem dX6_ask_209 : decode cX6_ask 209 = .ok (.aload_n 0, 1) := by decide +kernel
theorem dX6_ask_210 : decode cX6_ask 210 = .ok (.getfield 16, 3) := by decide +kernel
theorem dX6_ask_213 : decode cX6_ask 213 = .ok (.iload_n 1, 1) := by decide +kernel
theorem dX6_ask_214 : decode cX6_ask 214 = .ok (.iaload, 1) := by decide +kernel
theorem dX6_ask_215 : decode cX6_ask 215 = .ok (.aload_n 0, 1) := by decide +kernel
theorem dX6_ask_216 : decode cX6_ask 216 = .ok (.getfield 19, 3) := by decide +kernel
theorem dX6_ask_219 : decode cX6_ask 219 = .ok (.iload_n 1, 1) := by decide +kernel
theorem dX6_ask_220 : decode cX6_ask 220 = .ok (.iaload, 1) := by decide +kernel
theorem dX6_ask_221 : decode cX6_ask 221 = .ok (.iconst 1, 1) := by decide +kernel
theorem dX6_ask_222 : decode cX6_ask 222 = .ok (.aload_n 0, 1) := by decide +kernel
theorem dX6_ask_223 : decode cX6_ask 223 = .ok (.getfield 22, 3) := by decide +kernel
theorem dX6_ask_226 : decode cX6_ask 226 = .ok (.iload_n 1, 1) := by decide +kernel
theorem dX6_ask_227 : decode cX6_ask 227 = .ok (.iaload, 1) := by decide +kernel
theorem dX6_ask_228 : decode cX6_ask 228 = .ok (.invokevirtual 124, 3) := by decide +kernel
theorem dX6_ask_231 : decode cX6_ask 231 = .ok (.ireturn, 1) := by decide +kernel
set_option maxRecDepth 20000 in
theorem ggX6_group_X6_isLeg : GoodIn wsX6_group wsX6_isLeg := goodIn_r _ [5, 6, 7, 4, 8] (by decide +kernel) (by decide +kernel)
set_option maxRecDepth 20000 in
theorem gX6_group_X6_isLeg : GoodIn wsX6_group (va_wsS RX6 96 yX6_isLeg wsX6_isLeg) := goodIn_app (goodIn_of _ (by decide +kernel)) ggX6_group_X6_isLeg
set_option maxRecDepth 20000 in
theorem ggX6_group_X6_isIn : GoodIn wsX6_group wsX6_isIn := goodIn_r _ [8] (by decide +kernel) (by decide +kernel)
set_option maxRecDepth 20000 in
theorem gX6_group_X6_isIn : GoodIn wsX6_group (va_wsS RX6 67 yX6_isIn wsX6_isIn) := goodIn_app (goodIn_of _ (by decide +kernel)) ggX6_group_X6_isIn
set_option maxRecDepth 20000 in
theorem ggX6_group_X6_fails : GoodIn wsX6_group wsX6_fails := goodIn_r _ [12, 13, 64, 65, 66, 67, 68, 69, 70, 71, 72, 73, 74, 75, 76, 77, 78, 79, 80, 81, 82, 83, 84, 85] (by decide +kernel) (by decide +kernel)
set_option maxRecDepth 20000 in
theorem gX6_group_X6_fails : GoodIn wsX6_group (wsV RX6 93 RX6 yX6_fails wsX6_fails) := goodIn_app (goodIn_of _ (by decide +kernel)) ggX6_group_X6_fails
set_option maxRecDepth 20000 in
theorem ggX6_group_X6_isTooFull : GoodIn wsX6_group wsX6_isTooFull := goodIn_r _ [17, 18, 19, 20, 4, 21, 22, 23, 64, 65, 66, 67, 68, 69, 70, 71, 72, 73, 74, 75, 76, 77, 78, 79, 80, 81, 82, 83, 84, 85] (by decide +kernel) (by decide +kernel)
set_option maxRecDepth 20000 in
theorem gX6_group_X6_isTooFull : GoodIn wsX6_group (wsV RX6 128 RX6 yX6_isTooFull wsX6_isTooFull) := goodIn_app (goodIn_of _ (by decide +kernel)) ggX6_group_X6_isTooFull
set_option maxRecDepth 20000 in
theorem ggX6_group_X6_refuses : GoodIn wsX6_group wsX6_refuses := goodIn_r _ [27, 28, 64, 65, 66, 67, 68, 69, 70, 71, 72, 73, 74, 75, 76, 77, 78, 79, 80, 81, 82, 83, 84, 85] (by decide +kernel) (by decide +kernel)
