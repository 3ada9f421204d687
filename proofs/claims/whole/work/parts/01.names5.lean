set_option maxRecDepth 20000 in
theorem gX6_group_X6_refuses : GoodIn wsX6_group (wsV RX6 121 RX6 yX6_refuses wsX6_refuses) := goodIn_app (goodIn_of _ (by decide +kernel)) ggX6_group_X6_refuses
set_option maxRecDepth 20000 in
theorem ggX6_group_X6_finds : GoodIn wsX6_group wsX6_finds := goodIn_r _ [32, 33, 34, 35, 36, 37, 38, 39, 4, 40, 41, 42, 43, 6, 7, 8, 44, 45, 46, 64, 65, 66, 67, 68, 69, 70, 71, 72, 73, 74, 75, 76, 77, 78, 79, 80, 81, 82, 83, 84, 85] (by decide +kernel) (by decide +kernel)
set_option maxRecDepth 20000 in
theorem gX6_group_X6_finds : GoodIn wsX6_group (wsV RX6 108 RX6 yX6_finds wsX6_finds) := goodIn_app (goodIn_of _ (by decide +kernel)) ggX6_group_X6_finds
set_option maxRecDepth 20000 in
theorem ggX6_group_X6_displaces : GoodIn wsX6_group wsX6_displaces := goodIn_r _ [50, 51, 52, 53, 4, 54, 33, 18, 19, 20, 21, 22, 23, 44, 45, 46, 6, 7, 8, 64, 65, 66, 67, 68, 69, 70, 71, 72, 73, 74, 75, 76, 77, 78, 79, 80, 81, 82, 83, 84, 85] (by decide +kernel) (by decide +kernel)
set_option maxRecDepth 20000 in
theorem gX6_group_X6_displaces : GoodIn wsX6_group (wsV RX6 131 RX6 yX6_displaces wsX6_displaces) := goodIn_app (goodIn_of _ (by decide +kernel)) ggX6_group_X6_displaces
set_option maxRecDepth 20000 in
theorem ggX6_group_X6_books : GoodIn wsX6_group wsX6_books := goodIn_r _ [58, 59, 1, 60, 61, 62, 63, 23, 64, 65, 66, 67, 68, 69, 70, 71, 72, 73, 74, 75, 76, 77, 78, 79, 80, 81, 82, 83, 84, 85] (by decide +kernel) (by decide +kernel)
set_option maxRecDepth 20000 in
theorem gX6_group_X6_books : GoodIn wsX6_group (wsV RX6 124 RX6 yX6_books wsX6_books) := goodIn_app (goodIn_of _ (by decide +kernel)) ggX6_group_X6_books
theorem dX6_group_0 : decode cX6_group 0 = .ok (.iload_n 1, 1) := by decide +kernel
theorem dX6_group_1 : decode cX6_group 1 = .ok (.invokestatic 96, 3) := by decide +kernel
theorem dX6_group_4 : decode cX6_group 4 = .ok (.ifCond .eq 14, 3) := by decide +kernel
theorem dX6_group_7 : decode cX6_group 7 = .ok (.iload_n 2, 1) := by decide +kernel
theorem dX6_group_8 : decode cX6_group 8 = .ok (.invokestatic 96, 3) := by decide +kernel
theorem dX6_group_11 : decode cX6_group 11 = .ok (.ifCond .eq 7, 3) := by decide +kernel
theorem dX6_group_14 : decode cX6_group 14 = .ok (.iconst 1, 1) := by decide +kernel
theorem dX6_group_15 : decode cX6_group 15 = .ok (.goto 4, 3) := by decide +kernel
theorem dX6_group_18 : decode cX6_group 18 = .ok (.iconst 0, 1) := by decide +kernel
theorem dX6_group_19 : decode cX6_group 19 = .ok (.istore 5, 2) := by decide +kernel
theorem dX6_group_21 : decode cX6_group 21 = .ok (.iload_n 2, 1) := by decide +kernel
theorem dX6_group_22 : decode cX6_group 22 = .ok (.iload_n 1, 1) := by decide +kernel
theorem dX6_group_23 : decode cX6_group 23 = .ok (.if_icmp .lt 29, 3) := by decide +kernel
theorem dX6_group_26 : decode cX6_group 26 = .ok (.iload_n 3, 1) := by decide +kernel
theorem dX6_group_27 : decode cX6_group 27 = .ok (.iconst 1, 1) := by decide +kernel
theorem dX6_group_28 : decode cX6_group 28 = .ok (.bipush 10, 2) := by decide +kernel
theorem dX6_group_30 : decode cX6_group 30 = .ok (.invokestatic 67, 3) := by decide +kernel
theorem dX6_group_33 : decode cX6_group 33 = .ok (.ifCond .eq 19, 3) := by decide +kernel
theorem dX6_group_36 : decode cX6_group 36 = .ok (.iload 4, 2) := by decide +kernel
theorem dX6_group_38 : decode cX6_group 38 = .ok (.iconst 1, 1) := by decide +kernel
theorem dX6_group_39 : decode cX6_group 39 = .ok (.sipush 3000, 3) := by decide +kernel
theorem dX6_group_42 : decode cX6_group 42 = .ok (.invokestatic 67, 3) := by decide +kernel
theorem dX6_group_45 : decode cX6_group 45 = .ok (.ifCond .eq 7, 3) := by decide +kernel
theorem dX6_group_48 : decode cX6_group 48 = .ok (.iconst 1, 1) := by decide +kernel
theorem dX6_group_49 : decode cX6_group 49 = .ok (.goto 4, 3) := by decide +kernel
theorem dX6_group_52 : decode cX6_group 52 = .ok (.iconst 0, 1) := by decide +kernel
theorem dX6_group_53 : decode cX6_group 53 = .ok (.istore 6, 2) := by decide +kernel
theorem dX6_group_55 : decode cX6_group 55 = .ok (.aload_n 0, 1) := by decide +kernel
theorem dX6_group_56 : decode cX6_group 56 = .ok (.iload 5, 2) := by decide +kernel
theorem dX6_group_58 : decode cX6_group 58 = .ok (.ifCond .ne 7, 3) := by decide +kernel
theorem dX6_group_61 : decode cX6_group 61 = .ok (.iconst 1, 1) := by decide +kernel
theorem dX6_group_62 : decode cX6_group 62 = .ok (.goto 26, 3) := by decide +kernel
theorem dX6_group_65 : decode cX6_group 65 = .ok (.iload 6, 2) := by decide +kernel
theorem dX6_group_67 : decode cX6_group 67 = .ok (.ifCond .ne 7, 3) := by decide +kernel
theorem dX6_group_70 : decode cX6_group 70 = .ok (.iconst 2, 1) := by decide +kernel
theorem dX6_group_71 : decode cX6_group 71 = .ok (.goto 17, 3) := by decide +kernel
theorem dX6_group_74 : decode cX6_group 74 = .ok (.aload_n 0, 1) := by decide +kernel
theorem dX6_group_75 : decode cX6_group 75 = .ok (.getfield 105, 3) := by decide +kernel
theorem dX6_group_78 : decode cX6_group 78 = .ok (.bipush 60, 2) := by decide +kernel
theorem dX6_group_80 : decode cX6_group 80 = .ok (.if_icmp .ne 7, 3) := by decide +kernel
theorem dX6_group_83 : decode cX6_group 83 = .ok (.iconst 3, 1) := by decide +kernel
theorem dX6_group_84 : decode cX6_group 84 = .ok (.goto 4, 3) := by decide +kernel
theorem dX6_group_87 : decode cX6_group 87 = .ok (.iconst 0, 1) := by decide +kernel
theorem dX6_group_88 : decode cX6_group 88 = .ok (.invokevirtual 93, 3) := by decide +kernel
theorem dX6_group_91 : decode cX6_group 91 = .ok (.ifCond .eq 5, 3) := by decide +kernel
theorem dX6_group_94 : decode cX6_group 94 = .ok (.iconst 0, 1) := by decide +kernel
theorem dX6_group_95 : decode cX6_group 95 = .ok (.ireturn, 1) := by decide +kernel
theorem dX6_group_96 : decode cX6_group 96 = .ok (.aload_n 0, 1) := by decide +kernel
theorem dX6_group_97 : decode cX6_group 97 = .ok (.iload_n 1, 1) := by decide +kernel
theorem dX6_group_98 : decode cX6_group 98 = .ok (.iload_n 2, 1) := by decide +kernel
theorem dX6_group_99 : decode cX6_group 99 = .ok (.iload_n 3, 1) := by decide +kernel
theorem dX6_group_100 : decode cX6_group 100 = .ok (.invokevirtual 128, 3) := by decide +kernel
theorem dX6_group_103 : decode cX6_group 103 = .ok (.ifCond .eq 9, 3) := by decide +kernel
theorem dX6_group_106 : decode cX6_group 106 = .ok (.aload_n 0, 1) := by decide +kernel
theorem dX6_group_107 : decode cX6_group 107 = .ok (.iconst (-1), 1) := by decide +kernel
theorem dX6_group_108 : decode cX6_group 108 = .ok (.invokevirtual 121, 3) := by decide +kernel
theorem dX6_group_111 : decode cX6_group 111 = .ok (.ireturn, 1) := by decide +kernel
theorem dX6_group_112 : decode cX6_group 112 = .ok (.aload_n 0, 1) := by decide +kernel
theorem dX6_group_113 : decode cX6_group 113 = .ok (.invokevirtual 108, 3) := by decide +kernel
theorem dX6_group_116 : decode cX6_group 116 = .ok (.iload 4, 2) := by decide +kernel
theorem dX6_group_118 : decode cX6_group 118 = .ok (.iload_n 3, 1) := by decide +kernel
theorem dX6_group_119 : decode cX6_group 119 = .ok (.imul, 1) := by decide +kernel
theorem dX6_group_120 : decode cX6_group 120 = .ok (.aload_n 0, 1) := by decide +kernel
theorem dX6_group_121 : decode cX6_group 121 = .ok (.iload_n 1, 1) := by decide +kernel
theorem dX6_group_122 : decode cX6_group 122 = .ok (.iload_n 2, 1) := by decide +kernel
theorem dX6_group_123 : decode cX6_group 123 = .ok (.iload_n 3, 1) := by decide +kernel
theorem dX6_group_124 : decode cX6_group 124 = .ok (.invokevirtual 131, 3) := by decide +kernel
theorem dX6_group_127 : decode cX6_group 127 = .ok (.if_icmp .ge 12, 3) := by decide +kernel
theorem dX6_group_130 : decode cX6_group 130 = .ok (.aload_n 0, 1) := by decide +kernel
theorem dX6_group_131 : decode cX6_group 131 = .ok (.bipush (-3), 2) := by decide +kernel
theorem dX6_group_133 : decode cX6_group 133 = .ok (.invokevirtual 121, 3) := by decide +kernel
theorem dX6_group_136 : decode cX6_group 136 = .ok (.goto 14, 3) := by decide +kernel
theorem dX6_group_139 : decode cX6_group 139 = .ok (.aload_n 0, 1) := by decide +kernel
theorem dX6_group_140 : decode cX6_group 140 = .ok (.iload_n 1, 1) := by decide +kernel
theorem dX6_group_141 : decode cX6_group 141 = .ok (.iload_n 2, 1) := by decide +kernel
theorem dX6_group_142 : decode cX6_group 142 = .ok (.iload_n 3, 1) := by decide +kernel
theorem dX6_group_143 : decode cX6_group 143 = .ok (.iload 4, 2) := by decide +kernel
theorem dX6_group_145 : decode cX6_group 145 = .ok (.iload_n 3, 1) := by decide +kernel
theorem dX6_group_146 : decode cX6_group 146 = .ok (.imul, 1) := by decide +kernel
theorem dX6_group_147 : decode cX6_group 147 = .ok (.invokevirtual 124, 3) := by decide +kernel
theorem dX6_group_150 : decode cX6_group 150 = .ok (.ireturn, 1) := by decide +kernel
set_option maxRecDepth 20000 in
theorem ggX6_cancel_X6_isIn : GoodIn wsX6_cancel wsX6_isIn := goodIn_r _ [10] (by decide +kernel) (by decide +kernel)
set_option maxRecDepth 20000 in
theorem gX6_cancel_X6_isIn : GoodIn wsX6_cancel (va_wsS RX6 67 yX6_isIn wsX6_isIn) := goodIn_app (goodIn_of _ (by decide +kernel)) ggX6_cancel_X6_isIn
set_option maxRecDepth 20000 in
theorem ggX6_cancel_X6_fails : GoodIn wsX6_cancel wsX6_fails := goodIn_r _ [14, 15, 16, 17, 18, 19, 20, 21, 22, 23, 24, 25, 26, 27, 28, 29, 30, 31, 32, 33, 34, 35, 36, 37] (by decide +kernel) (by decide +kernel)
set_option maxRecDepth 20000 in
theorem gX6_cancel_X6_fails : GoodIn wsX6_cancel (wsV RX6 93 RX6 yX6_fails wsX6_fails) := goodIn_app (goodIn_of _ (by decide +kernel)) ggX6_cancel_X6_fails
theorem dX6_cancel_0 : decode cX6_cancel 0 = .ok (.iload_n 1, 1) := by decide +kernel
theorem dX6_cancel_1 : decode cX6_cancel 1 = .ok (.iconst 0, 1) := by decide +kernel
theorem dX6_cancel_2 : decode cX6_cancel 2 = .ok (.aload_n 0, 1) := by decide +kernel
theorem dX6_cancel_3 : decode cX6_cancel 3 = .ok (.getfield 105, 3) := by decide +kernel
theorem dX6_cancel_6 : decode cX6_cancel 6 = .ok (.iconst 1, 1) := by decide +kernel
theorem dX6_cancel_7 : decode cX6_cancel 7 = .ok (.isub, 1) := by decide +kernel
theorem dX6_cancel_8 : decode cX6_cancel 8 = .ok (.invokestatic 67, 3) := by decide +kernel
theorem dX6_cancel_11 : decode cX6_cancel 11 = .ok (.istore_n 2, 1) := by decide +kernel
theorem dX6_cancel_12 : decode cX6_cancel 12 = .ok (.aload_n 0, 1) := by decide +kernel
theorem dX6_cancel_13 : decode cX6_cancel 13 = .ok (.iload_n 2, 1) := by decide +kernel
theorem dX6_cancel_14 : decode cX6_cancel 14 = .ok (.ifCond .ne 7, 3) := by decide +kernel
theorem dX6_cancel_17 : decode cX6_cancel 17 = .ok (.iconst 1, 1) := by decide +kernel
theorem dX6_cancel_18 : decode cX6_cancel 18 = .ok (.goto 17, 3) := by decide +kernel
theorem dX6_cancel_21 : decode cX6_cancel 21 = .ok (.aload_n 0, 1) := by decide +kernel
theorem dX6_cancel_22 : decode cX6_cancel 22 = .ok (.getfield 54, 3) := by decide +kernel
theorem dX6_cancel_25 : decode cX6_cancel 25 = .ok (.iload_n 1, 1) := by decide +kernel
theorem dX6_cancel_26 : decode cX6_cancel 26 = .ok (.baload, 1) := by decide +kernel
theorem dX6_cancel_27 : decode cX6_cancel 27 = .ok (.ifCond .eq 7, 3) := by decide +kernel
theorem dX6_cancel_30 : decode cX6_cancel 30 = .ok (.iconst 2, 1) := by decide +kernel
theorem dX6_cancel_31 : decode cX6_cancel 31 = .ok (.goto 4, 3) := by decide +kernel
theorem dX6_cancel_34 : decode cX6_cancel 34 = .ok (.iconst 0, 1) := by decide +kernel
theorem dX6_cancel_35 : decode cX6_cancel 35 = .ok (.invokevirtual 93, 3) := by decide +kernel
theorem dX6_cancel_38 : decode cX6_cancel 38 = .ok (.ifCond .eq 5, 3) := by decide +kernel
theorem dX6_cancel_41 : decode cX6_cancel 41 = .ok (.iconst 0, 1) := by decide +kernel
theorem dX6_cancel_42 : decode cX6_cancel 42 = .ok (.ireturn, 1) := by decide +kernel
theorem dX6_cancel_43 : decode cX6_cancel 43 = .ok (.aload_n 0, 1) := by decide +kernel
theorem dX6_cancel_44 : decode cX6_cancel 44 = .ok (.getfield 54, 3) := by decide +kernel
theorem dX6_cancel_47 : decode cX6_cancel 47 = .ok (.iload_n 1, 1) := by decide +kernel
theorem dX6_cancel_48 : decode cX6_cancel 48 = .ok (.iconst 1, 1) := by decide +kernel
theorem dX6_cancel_49 : decode cX6_cancel 49 = .ok (.bastore, 1) := by decide +kernel
theorem dX6_cancel_50 : decode cX6_cancel 50 = .ok (.aload_n 0, 1) := by decide +kernel
theorem dX6_cancel_51 : decode cX6_cancel 51 = .ok (.getfield 42, 3) := by decide +kernel
theorem dX6_cancel_54 : decode cX6_cancel 54 = .ok (.iload_n 1, 1) := by decide +kernel
theorem dX6_cancel_55 : decode cX6_cancel 55 = .ok (.iaload, 1) := by decide +kernel
theorem dX6_cancel_56 : decode cX6_cancel 56 = .ok (.istore_n 3, 1) := by decide +kernel
theorem dX6_cancel_57 : decode cX6_cancel 57 = .ok (.iload_n 3, 1) := by decide +kernel
theorem dX6_cancel_58 : decode cX6_cancel 58 = .ok (.aload_n 0, 1) := by decide +kernel
theorem dX6_cancel_59 : decode cX6_cancel 59 = .ok (.getfield 45, 3) := by decide +kernel
theorem dX6_cancel_62 : decode cX6_cancel 62 = .ok (.iload_n 1, 1) := by decide +kernel
theorem dX6_cancel_63 : decode cX6_cancel 63 = .ok (.iaload, 1) := by decide +kernel
theorem dX6_cancel_64 : decode cX6_cancel 64 = .ok (.if_icmp .gt 24, 3) := by decide +kernel
theorem dX6_cancel_67 : decode cX6_cancel 67 = .ok (.aload_n 0, 1) := by decide +kernel
theorem dX6_cancel_68 : decode cX6_cancel 68 = .ok (.getfield 13, 3) := by decide +kernel
theorem dX6_cancel_71 : decode cX6_cancel 71 = .ok (.iload_n 3, 1) := by decide +kernel
theorem dX6_cancel_72 : decode cX6_cancel 72 = .ok (.dup2, 1) := by decide +kernel
theorem dX6_cancel_73 : decode cX6_cancel 73 = .ok (.iaload, 1) := by decide +kernel
theorem dX6_cancel_74 : decode cX6_cancel 74 = .ok (.aload_n 0, 1) := by decide +kernel
theorem dX6_cancel_75 : decode cX6_cancel 75 = .ok (.getfield 48, 3) := by decide +kernel
theorem dX6_cancel_78 : decode cX6_cancel 78 = .ok (.iload_n 1, 1) := by decide +kernel
theorem dX6_cancel_79 : decode cX6_cancel 79 = .ok (.iaload, 1) := by decide +kernel
theorem dX6_cancel_80 : decode cX6_cancel 80 = .ok (.isub, 1) := by decide +kernel
theorem dX6_cancel_81 : decode cX6_cancel 81 = .ok (.iastore, 1) := by decide +kernel
theorem dX6_cancel_82 : decode cX6_cancel 82 = .ok (.iinc 3 1, 3) := by decide +kernel
theorem dX6_cancel_85 : decode cX6_cancel 85 = .ok (.goto (-28), 3) := by decide +kernel
theorem dX6_cancel_88 : decode cX6_cancel 88 = .ok (.aload_n 0, 1) := by decide +kernel
theorem dX6_cancel_89 : decode cX6_cancel 89 = .ok (.getfield 48, 3) := by decide +kernel
theorem dX6_cancel_92 : decode cX6_cancel 92 = .ok (.iload_n 1, 1) := by decide +kernel
theorem dX6_cancel_93 : decode cX6_cancel 93 = .ok (.iaload, 1) := by decide +kernel
theorem dX6_cancel_94 : decode cX6_cancel 94 = .ok (.ireturn, 1) := by decide +kernel
theorem dX6_sold_0 : decode cX6_sold 0 = .ok (.iconst 0, 1) := by decide +kernel
theorem dX6_sold_1 : decode cX6_sold 1 = .ok (.istore_n 1, 1) := by decide +kernel
theorem dX6_sold_2 : decode cX6_sold 2 = .ok (.iconst 0, 1) := by decide +kernel
theorem dX6_sold_3 : decode cX6_sold 3 = .ok (.istore_n 2, 1) := by decide +kernel
theorem dX6_sold_4 : decode cX6_sold 4 = .ok (.iload_n 2, 1) := by decide +kernel
theorem dX6_sold_5 : decode cX6_sold 5 = .ok (.aload_n 0, 1) := by decide +kernel
theorem dX6_sold_6 : decode cX6_sold 6 = .ok (.getfield 105, 3) := by decide +kernel
theorem dX6_sold_9 : decode cX6_sold 9 = .ok (.if_icmp .ge 31, 3) := by decide +kernel
theorem dX6_sold_12 : decode cX6_sold 12 = .ok (.iload_n 1, 1) := by decide +kernel
theorem dX6_sold_13 : decode cX6_sold 13 = .ok (.aload_n 0, 1) := by decide +kernel
theorem dX6_sold_14 : decode cX6_sold 14 = .ok (.getfield 54, 3) := by decide +kernel
theorem dX6_sold_17 : decode cX6_sold 17 = .ok (.iload_n 2, 1) := by decide +kernel
theorem dX6_sold_18 : decode cX6_sold 18 = .ok (.baload, 1) := by decide +kernel
theorem dX6_sold_19 : decode cX6_sold 19 = .ok (.ifCond .eq 7, 3) := by decide +kernel
theorem dX6_sold_22 : decode cX6_sold 22 = .ok (.iconst 0, 1) := by decide +kernel
theorem dX6_sold_23 : decode cX6_sold 23 = .ok (.goto 9, 3) := by decide +kernel
theorem dX6_sold_26 : decode cX6_sold 26 = .ok (.aload_n 0, 1) := by decide +kernel
theorem dX6_sold_27 : decode cX6_sold 27 = .ok (.getfield 51, 3) := by decide +kernel
theorem dX6_sold_30 : decode cX6_sold 30 = .ok (.iload_n 2, 1) := by decide +kernel
theorem dX6_sold_31 : decode cX6_sold 31 = .ok (.iaload, 1) := by decide +kernel
theorem dX6_sold_32 : decode cX6_sold 32 = .ok (.iadd, 1) := by decide +kernel
theorem dX6_sold_33 : decode cX6_sold 33 = .ok (.istore_n 1, 1) := by decide +kernel
theorem dX6_sold_34 : decode cX6_sold 34 = .ok (.iinc 2 1, 3) := by decide +kernel
theorem dX6_sold_37 : decode cX6_sold 37 = .ok (.goto (-33), 3) := by decide +kernel
theorem dX6_sold_40 : decode cX6_sold 40 = .ok (.iload_n 1, 1) := by decide +kernel
theorem dX6_sold_41 : decode cX6_sold 41 = .ok (.ireturn, 1) := by decide +kernel
set_option maxRecDepth 20000 in
theorem ggX6_endDay_X6_isIn : GoodIn wsX6_endDay wsX6_isIn := goodIn_r _ [14] (by decide +kernel) (by decide +kernel)
set_option maxRecDepth 20000 in
theorem gX6_endDay_X6_isIn : GoodIn wsX6_endDay (va_wsS RX6 67 yX6_isIn wsX6_isIn) := goodIn_app (goodIn_of _ (by decide +kernel)) ggX6_endDay_X6_isIn
set_option maxRecDepth 20000 in
theorem ggX6_endDay_X6_fails : GoodIn wsX6_endDay wsX6_fails := goodIn_r _ [18, 19, 26, 27, 28, 29, 30, 31, 32, 33, 34, 35, 36, 37, 38, 39, 40, 41, 42, 43, 44, 45, 46, 47] (by decide +kernel) (by decide +kernel)
set_option maxRecDepth 20000 in
theorem gX6_endDay_X6_fails : GoodIn wsX6_endDay (wsV RX6 93 RX6 yX6_fails wsX6_fails) := goodIn_app (goodIn_of _ (by decide +kernel)) ggX6_endDay_X6_fails
set_option maxRecDepth 20000 in
theorem ggX6_endDay_X6_sold : GoodIn wsX6_endDay wsX6_sold := goodIn_r _ [23, 4, 24, 25, 26, 27, 28, 29, 30, 31, 32, 33, 34, 35, 36, 37, 38, 39, 40, 41, 42, 43, 44, 45, 46, 47] (by decide +kernel) (by decide +kernel)
set_option maxRecDepth 20000 in
theorem gX6_endDay_X6_sold : GoodIn wsX6_endDay (wsV RX6 138 RX6 yX6_sold wsX6_sold) := goodIn_app (goodIn_of _ (by decide +kernel)) ggX6_endDay_X6_sold
theorem dX6_endDay_0 : decode cX6_endDay 0 = .ok (.aload_n 0, 1) := by decide +kernel
theorem dX6_endDay_1 : decode cX6_endDay 1 = .ok (.iload_n 1, 1) := by decide +kernel
theorem dX6_endDay_2 : decode cX6_endDay 2 = .ok (.iconst 0, 1) := by decide +kernel
theorem dX6_endDay_3 : decode cX6_endDay 3 = .ok (.bipush 100, 2) := by decide +kernel
theorem dX6_endDay_5 : decode cX6_endDay 5 = .ok (.invokestatic 67, 3) := by decide +kernel
theorem dX6_endDay_8 : decode cX6_endDay 8 = .ok (.ifCond .eq 7, 3) := by decide +kernel
theorem dX6_endDay_11 : decode cX6_endDay 11 = .ok (.iconst 0, 1) := by decide +kernel
theorem dX6_endDay_12 : decode cX6_endDay 12 = .ok (.goto 4, 3) := by decide +kernel
theorem dX6_endDay_15 : decode cX6_endDay 15 = .ok (.iconst 1, 1) := by decide +kernel
theorem dX6_endDay_16 : decode cX6_endDay 16 = .ok (.invokevirtual 93, 3) := by decide +kernel
theorem dX6_endDay_19 : decode cX6_endDay 19 = .ok (.ifCond .eq 5, 3) := by decide +kernel
theorem dX6_endDay_22 : decode cX6_endDay 22 = .ok (.iconst 0, 1) := by decide +kernel
theorem dX6_endDay_23 : decode cX6_endDay 23 = .ok (.ireturn, 1) := by decide +kernel
theorem dX6_endDay_24 : decode cX6_endDay 24 = .ok (.iconst 0, 1) := by decide +kernel
theorem dX6_endDay_25 : decode cX6_endDay 25 = .ok (.istore_n 2, 1) := by decide +kernel
theorem dX6_endDay_26 : decode cX6_endDay 26 = .ok (.iconst 0, 1) := by decide +kernel
theorem dX6_endDay_27 : decode cX6_endDay 27 = .ok (.istore_n 3, 1) := by decide +kernel
theorem dX6_endDay_28 : decode cX6_endDay 28 = .ok (.iload_n 3, 1) := by decide +kernel
theorem dX6_endDay_29 : decode cX6_endDay 29 = .ok (.iconst 3, 1) := by decide +kernel
theorem dX6_endDay_30 : decode cX6_endDay 30 = .ok (.if_icmp .ge 59, 3) := by decide +kernel
theorem dX6_endDay_33 : decode cX6_endDay 33 = .ok (.aload_n 0, 1) := by decide +kernel
theorem dX6_endDay_34 : decode cX6_endDay 34 = .ok (.getfield 13, 3) := by decide +kernel
theorem dX6_endDay_37 : decode cX6_endDay 37 = .ok (.iload_n 3, 1) := by decide +kernel
theorem dX6_endDay_38 : decode cX6_endDay 38 = .ok (.iaload, 1) := by decide +kernel
theorem dX6_endDay_39 : decode cX6_endDay 39 = .ok (.iload_n 1, 1) := by decide +kernel
theorem dX6_endDay_40 : decode cX6_endDay 40 = .ok (.imul, 1) := by decide +kernel
theorem dX6_endDay_41 : decode cX6_endDay 41 = .ok (.bipush 99, 2) := by decide +kernel
theorem dX6_endDay_43 : decode cX6_endDay 43 = .ok (.iadd, 1) := by decide +kernel
theorem dX6_endDay_44 : decode cX6_endDay 44 = .ok (.bipush 100, 2) := by decide +kernel
theorem dX6_endDay_46 : decode cX6_endDay 46 = .ok (.idiv, 1) := by decide +kernel
theorem dX6_endDay_47 : decode cX6_endDay 47 = .ok (.istore 4, 2) := by decide +kernel
theorem dX6_endDay_49 : decode cX6_endDay 49 = .ok (.iload_n 2, 1) := by decide +kernel
theorem dX6_endDay_50 : decode cX6_endDay 50 = .ok (.iload 4, 2) := by decide +kernel
theorem dX6_endDay_52 : decode cX6_endDay 52 = .ok (.aload_n 0, 1) := by decide +kernel
theorem dX6_endDay_53 : decode cX6_endDay 53 = .ok (.getfield 7, 3) := by decide +kernel
theorem dX6_endDay_56 : decode cX6_endDay 56 = .ok (.iload_n 3, 1) := by decide +kernel
theorem dX6_endDay_57 : decode cX6_endDay 57 = .ok (.iaload, 1) := by decide +kernel
theorem dX6_endDay_58 : decode cX6_endDay 58 = .ok (.if_icmp .le 15, 3) := by decide +kernel
theorem dX6_endDay_61 : decode cX6_endDay 61 = .ok (.iload 4, 2) := by decide +kernel
theorem dX6_endDay_63 : decode cX6_endDay 63 = .ok (.aload_n 0, 1) := by decide +kernel
theorem dX6_endDay_64 : decode cX6_endDay 64 = .ok (.getfield 7, 3) := by decide +kernel
theorem dX6_endDay_67 : decode cX6_endDay 67 = .ok (.iload_n 3, 1) := by decide +kernel
theorem dX6_endDay_68 : decode cX6_endDay 68 = .ok (.iaload, 1) := by decide +kernel
theorem dX6_endDay_69 : decode cX6_endDay 69 = .ok (.isub, 1) := by decide +kernel
theorem dX6_endDay_70 : decode cX6_endDay 70 = .ok (.goto 4, 3) := by decide +kernel
theorem dX6_endDay_73 : decode cX6_endDay 73 = .ok (.iconst 0, 1) := by decide +kernel
theorem dX6_endDay_74 : decode cX6_endDay 74 = .ok (.iadd, 1) := by decide +kernel
theorem dX6_endDay_75 : decode cX6_endDay 75 = .ok (.istore_n 2, 1) := by decide +kernel
theorem dX6_endDay_76 : decode cX6_endDay 76 = .ok (.aload_n 0, 1) := by decide +kernel
theorem dX6_endDay_77 : decode cX6_endDay 77 = .ok (.getfield 13, 3) := by decide +kernel
theorem dX6_endDay_80 : decode cX6_endDay 80 = .ok (.iload_n 3, 1) := by decide +kernel
theorem dX6_endDay_81 : decode cX6_endDay 81 = .ok (.iconst 0, 1) := by decide +kernel
theorem dX6_endDay_82 : decode cX6_endDay 82 = .ok (.iastore, 1) := by decide +kernel
theorem dX6_endDay_83 : decode cX6_endDay 83 = .ok (.iinc 3 1, 3) := by decide +kernel
theorem dX6_endDay_86 : decode cX6_endDay 86 = .ok (.goto (-58), 3) := by decide +kernel
theorem dX6_endDay_89 : decode cX6_endDay 89 = .ok (.aload_n 0, 1) := by decide +kernel
theorem dX6_endDay_90 : decode cX6_endDay 90 = .ok (.dup, 1) := by decide +kernel
theorem dX6_endDay_91 : decode cX6_endDay 91 = .ok (.getfield 134, 3) := by decide +kernel
theorem dX6_endDay_94 : decode cX6_endDay 94 = .ok (.aload_n 0, 1) := by decide +kernel
theorem dX6_endDay_95 : decode cX6_endDay 95 = .ok (.invokevirtual 138, 3) := by decide +kernel
theorem dX6_endDay_98 : decode cX6_endDay 98 = .ok (.bipush 100, 2) := by decide +kernel
theorem dX6_endDay_100 : decode cX6_endDay 100 = .ok (.iload_n 2, 1) := by decide +kernel
theorem dX6_endDay_101 : decode cX6_endDay 101 = .ok (.imul, 1) := by decide +kernel
theorem dX6_endDay_102 : decode cX6_endDay 102 = .ok (.isub, 1) := by decide +kernel
theorem dX6_endDay_103 : decode cX6_endDay 103 = .ok (.i2l, 1) := by decide +kernel
theorem dX6_endDay_104 : decode cX6_endDay 104 = .ok (.ladd, 1) := by decide +kernel
theorem dX6_endDay_105 : decode cX6_endDay 105 = .ok (.putfield 134, 3) := by decide +kernel
theorem dX6_endDay_108 : decode cX6_endDay 108 = .ok (.aload_n 0, 1) := by decide +kernel
theorem dX6_endDay_109 : decode cX6_endDay 109 = .ok (.iconst 0, 1) := by decide +kernel
theorem dX6_endDay_110 : decode cX6_endDay 110 = .ok (.putfield 105, 3) := by decide +kernel
theorem dX6_endDay_113 : decode cX6_endDay 113 = .ok (.aload_n 0, 1) := by decide +kernel
theorem dX6_endDay_114 : decode cX6_endDay 114 = .ok (.dup, 1) := by decide +kernel
theorem dX6_endDay_115 : decode cX6_endDay 115 = .ok (.getfield 99, 3) := by decide +kernel
theorem dX6_endDay_118 : decode cX6_endDay 118 = .ok (.iconst 1, 1) := by decide +kernel
theorem dX6_endDay_119 : decode cX6_endDay 119 = .ok (.iadd, 1) := by decide +kernel
theorem dX6_endDay_120 : decode cX6_endDay 120 = .ok (.putfield 99, 3) := by decide +kernel
theorem dX6_endDay_123 : decode cX6_endDay 123 = .ok (.iconst 0, 1) := by decide +kernel
theorem dX6_endDay_124 : decode cX6_endDay 124 = .ok (.istore_n 3, 1) := by decide +kernel
theorem dX6_endDay_125 : decode cX6_endDay 125 = .ok (.iload_n 3, 1) := by decide +kernel
theorem dX6_endDay_126 : decode cX6_endDay 126 = .ok (.aload_n 0, 1) := by decide +kernel
theorem dX6_endDay_127 : decode cX6_endDay 127 = .ok (.getfield 71, 3) := by decide +kernel
theorem dX6_endDay_130 : decode cX6_endDay 130 = .ok (.if_icmp .ge 87, 3) := by decide +kernel
theorem dX6_endDay_133 : decode cX6_endDay 133 = .ok (.aload_n 0, 1) := by decide +kernel
theorem dX6_endDay_134 : decode cX6_endDay 134 = .ok (.getfield 35, 3) := by decide +kernel
theorem dX6_endDay_137 : decode cX6_endDay 137 = .ok (.bipush 21, 2) := by decide +kernel
theorem dX6_endDay_139 : decode cX6_endDay 139 = .ok (.iload_n 3, 1) := by decide +kernel
theorem dX6_endDay_140 : decode cX6_endDay 140 = .ok (.imul, 1) := by decide +kernel
theorem dX6_endDay_141 : decode cX6_endDay 141 = .ok (.aload_n 0, 1) := by decide +kernel
theorem dX6_endDay_142 : decode cX6_endDay 142 = .ok (.getfield 28, 3) := by decide +kernel
theorem dX6_endDay_145 : decode cX6_endDay 145 = .ok (.iload_n 3, 1) := by decide +kernel
theorem dX6_endDay_146 : decode cX6_endDay 146 = .ok (.iaload, 1) := by decide +kernel
theorem dX6_endDay_147 : decode cX6_endDay 147 = .ok (.bipush 20, 2) := by decide +kernel
theorem dX6_endDay_149 : decode cX6_endDay 149 = .ok (.if_icmp .le 8, 3) := by decide +kernel
theorem dX6_endDay_152 : decode cX6_endDay 152 = .ok (.bipush 20, 2) := by decide +kernel
theorem dX6_endDay_154 : decode cX6_endDay 154 = .ok (.goto 9, 3) := by decide +kernel
theorem dX6_endDay_157 : decode cX6_endDay 157 = .ok (.aload_n 0, 1) := by decide +kernel
theorem dX6_endDay_158 : decode cX6_endDay 158 = .ok (.getfield 28, 3) := by decide +kernel
theorem dX6_endDay_161 : decode cX6_endDay 161 = .ok (.iload_n 3, 1) := by decide +kernel
theorem dX6_endDay_162 : decode cX6_endDay 162 = .ok (.iaload, 1) := by decide +kernel
theorem dX6_endDay_163 : decode cX6_endDay 163 = .ok (.iadd, 1) := by decide +kernel
theorem dX6_endDay_164 : decode cX6_endDay 164 = .ok (.dup2, 1) := by decide +kernel
theorem dX6_endDay_165 : decode cX6_endDay 165 = .ok (.iaload, 1) := by decide +kernel
theorem dX6_endDay_166 : decode cX6_endDay 166 = .ok (.iconst 1, 1) := by decide +kernel
theorem dX6_endDay_167 : decode cX6_endDay 167 = .ok (.iadd, 1) := by decide +kernel
theorem dX6_endDay_168 : decode cX6_endDay 168 = .ok (.iastore, 1) := by decide +kernel
theorem dX6_endDay_169 : decode cX6_endDay 169 = .ok (.aload_n 0, 1) := by decide +kernel
theorem dX6_endDay_170 : decode cX6_endDay 170 = .ok (.getfield 31, 3) := by decide +kernel
theorem dX6_endDay_173 : decode cX6_endDay 173 = .ok (.iload_n 3, 1) := by decide +kernel
theorem dX6_endDay_174 : decode cX6_endDay 174 = .ok (.dup2, 1) := by decide +kernel
theorem dX6_endDay_175 : decode cX6_endDay 175 = .ok (.laload, 1) := by decide +kernel
theorem dX6_endDay_176 : decode cX6_endDay 176 = .ok (.aload_n 0, 1) := by decide +kernel
theorem dX6_endDay_177 : decode cX6_endDay 177 = .ok (.getfield 28, 3) := by decide +kernel
theorem dX6_endDay_180 : decode cX6_endDay 180 = .ok (.iload_n 3, 1) := by decide +kernel
theorem dX6_endDay_181 : decode cX6_endDay 181 = .ok (.iaload, 1) := by decide +kernel
theorem dX6_endDay_182 : decode cX6_endDay 182 = .ok (.i2l, 1) := by decide +kernel
theorem dX6_endDay_183 : decode cX6_endDay 183 = .ok (.ladd, 1) := by decide +kernel
theorem dX6_endDay_184 : decode cX6_endDay 184 = .ok (.lastore, 1) := by decide +kernel
theorem dX6_endDay_185 : decode cX6_endDay 185 = .ok (.aload_n 0, 1) := by decide +kernel
theorem dX6_endDay_186 : decode cX6_endDay 186 = .ok (.getfield 25, 3) := by decide +kernel
theorem dX6_endDay_189 : decode cX6_endDay 189 = .ok (.iload_n 3, 1) := by decide +kernel
theorem dX6_endDay_190 : decode cX6_endDay 190 = .ok (.aload_n 0, 1) := by decide +kernel
theorem dX6_endDay_191 : decode cX6_endDay 191 = .ok (.getfield 31, 3) := by decide +kernel
theorem dX6_endDay_194 : decode cX6_endDay 194 = .ok (.iload_n 3, 1) := by decide +kernel
theorem dX6_endDay_195 : decode cX6_endDay 195 = .ok (.laload, 1) := by decide +kernel
theorem dX6_endDay_196 : decode cX6_endDay 196 = .ok (.aload_n 0, 1) := by decide +kernel
theorem dX6_endDay_197 : decode cX6_endDay 197 = .ok (.getfield 99, 3) := by decide +kernel
theorem dX6_endDay_200 : decode cX6_endDay 200 = .ok (.i2l, 1) := by decide +kernel
theorem dX6_endDay_201 : decode cX6_endDay 201 = .ok (.ldiv, 1) := by decide +kernel
theorem dX6_endDay_202 : decode cX6_endDay 202 = .ok (.l2i, 1) := by decide +kernel
theorem dX6_endDay_203 : decode cX6_endDay 203 = .ok (.iastore, 1) := by decide +kernel
theorem dX6_endDay_204 : decode cX6_endDay 204 = .ok (.aload_n 0, 1) := by decide +kernel
theorem dX6_endDay_205 : decode cX6_endDay 205 = .ok (.getfield 28, 3) := by decide +kernel
theorem dX6_endDay_208 : decode cX6_endDay 208 = .ok (.iload_n 3, 1) := by decide +kernel
theorem dX6_endDay_209 : decode cX6_endDay 209 = .ok (.iconst 0, 1) := by decide +kernel
theorem dX6_endDay_210 : decode cX6_endDay 210 = .ok (.iastore, 1) := by decide +kernel
theorem dX6_endDay_211 : decode cX6_endDay 211 = .ok (.iinc 3 1, 3) := by decide +kernel
theorem dX6_endDay_214 : decode cX6_endDay 214 = .ok (.goto (-89), 3) := by decide +kernel
theorem dX6_endDay_217 : decode cX6_endDay 217 = .ok (.iload_n 2, 1) := by decide +kernel
theorem dX6_endDay_218 : decode cX6_endDay 218 = .ok (.ireturn, 1) := by decide +kernel
set_option maxRecDepth 20000 in
theorem ggX6_products_X6_tells : GoodIn wsX6_products wsX6_tells := goodIn_r _ [6, 7, 8, 9, 10, 11, 12, 13, 14, 15, 16, 17, 18, 19, 20, 21, 22, 23, 24, 25, 26, 27, 28, 29] (by decide +kernel) (by decide +kernel)
set_option maxRecDepth 20000 in
theorem gX6_products_X6_tells : GoodIn wsX6_products (wsV RX6 142 RX6 yX6_tells wsX6_tells) := goodIn_app (goodIn_of _ (by decide +kernel)) ggX6_products_X6_tells
theorem dX6_products_0 : decode cX6_products 0 = .ok (.aload_n 0, 1) := by decide +kernel
theorem dX6_products_1 : decode cX6_products 1 = .ok (.aload_n 0, 1) := by decide +kernel
theorem dX6_products_2 : decode cX6_products 2 = .ok (.getfield 71, 3) := by decide +kernel
theorem dX6_products_5 : decode cX6_products 5 = .ok (.invokevirtual 142, 3) := by decide +kernel
theorem dX6_products_8 : decode cX6_products 8 = .ok (.ireturn, 1) := by decide +kernel
set_option maxRecDepth 20000 in
theorem ggX6_days_X6_tells : GoodIn wsX6_days wsX6_tells := goodIn_r _ [6, 7, 8, 9, 10, 11, 12, 13, 14, 15, 16, 17, 18, 19, 20, 21, 22, 23, 24, 25, 26, 27, 28, 29] (by decide +kernel) (by decide +kernel)
set_option maxRecDepth 20000 in
theorem gX6_days_X6_tells : GoodIn wsX6_days (wsV RX6 142 RX6 yX6_tells wsX6_tells) := goodIn_app (goodIn_of _ (by decide +kernel)) ggX6_days_X6_tells
theorem dX6_days_0 : decode cX6_days 0 = .ok (.aload_n 0, 1) := by decide +kernel
theorem dX6_days_1 : decode cX6_days 1 = .ok (.aload_n 0, 1) := by decide +kernel
theorem dX6_days_2 : decode cX6_days 2 = .ok (.getfield 99, 3) := by decide +kernel
theorem dX6_days_5 : decode cX6_days 5 = .ok (.invokevirtual 142, 3) := by decide +kernel
theorem dX6_days_8 : decode cX6_days 8 = .ok (.ireturn, 1) := by decide +kernel
set_option maxRecDepth 20000 in
theorem ggX6_booked_X6_isLeg : GoodIn wsX6_booked wsX6_isLeg := goodIn_r _ [5, 6, 7, 4, 8] (by decide +kernel) (by decide +kernel)
set_option maxRecDepth 20000 in
theorem gX6_booked_X6_isLeg : GoodIn wsX6_booked (va_wsS RX6 96 yX6_isLeg wsX6_isLeg) := goodIn_app (goodIn_of _ (by decide +kernel)) ggX6_booked_X6_isLeg
set_option maxRecDepth 20000 in
theorem ggX6_booked_X6_fails : GoodIn wsX6_booked wsX6_fails := goodIn_r _ [12, 13, 14, 15, 16, 17, 18, 19, 20, 21, 22, 23, 24, 25, 26, 27, 28, 29, 30, 31, 32, 33, 34, 35] (by decide +kernel) (by decide +kernel)
set_option maxRecDepth 20000 in
theorem gX6_booked_X6_fails : GoodIn wsX6_booked (wsV RX6 93 RX6 yX6_fails wsX6_fails) := goodIn_app (goodIn_of _ (by decide +kernel)) ggX6_booked_X6_fails
theorem dX6_booked_0 : decode cX6_booked 0 = .ok (.aload_n 0, 1) := by decide +kernel
theorem dX6_booked_1 : decode cX6_booked 1 = .ok (.iload_n 1, 1) := by decide +kernel
theorem dX6_booked_2 : decode cX6_booked 2 = .ok (.invokestatic 96, 3) := by decide +kernel
theorem dX6_booked_5 : decode cX6_booked 5 = .ok (.ifCond .eq 7, 3) := by decide +kernel
theorem dX6_booked_8 : decode cX6_booked 8 = .ok (.iconst 0, 1) := by decide +kernel
theorem dX6_booked_9 : decode cX6_booked 9 = .ok (.goto 4, 3) := by decide +kernel
theorem dX6_booked_12 : decode cX6_booked 12 = .ok (.iconst 1, 1) := by decide +kernel
theorem dX6_booked_13 : decode cX6_booked 13 = .ok (.invokevirtual 93, 3) := by decide +kernel
theorem dX6_booked_16 : decode cX6_booked 16 = .ok (.ifCond .eq 7, 3) := by decide +kernel
theorem dX6_booked_19 : decode cX6_booked 19 = .ok (.iconst 0, 1) := by decide +kernel
theorem dX6_booked_20 : decode cX6_booked 20 = .ok (.goto 9, 3) := by decide +kernel
theorem dX6_booked_23 : decode cX6_booked 23 = .ok (.aload_n 0, 1) := by decide +kernel
theorem dX6_booked_24 : decode cX6_booked 24 = .ok (.getfield 13, 3) := by decide +kernel
theorem dX6_booked_27 : decode cX6_booked 27 = .ok (.iload_n 1, 1) := by decide +kernel
theorem dX6_booked_28 : decode cX6_booked 28 = .ok (.iaload, 1) := by decide +kernel
theorem dX6_booked_29 : decode cX6_booked 29 = .ok (.ireturn, 1) := by decide +kernel
set_option maxRecDepth 20000 in
theorem ggX6_authorised_X6_isLeg : GoodIn wsX6_authorised wsX6_isLeg := goodIn_r _ [4, 5, 6, 3, 7] (by decide +kernel) (by decide +kernel)
set_option maxRecDepth 20000 in
theorem gX6_authorised_X6_isLeg : GoodIn wsX6_authorised (va_wsS RX6 96 yX6_isLeg wsX6_isLeg) := goodIn_app (goodIn_of _ (by decide +kernel)) ggX6_authorised_X6_isLeg
set_option maxRecDepth 20000 in
theorem ggX6_authorised_X6_fails : GoodIn wsX6_authorised wsX6_fails := goodIn_r _ [11, 12, 19, 20, 21, 22, 23, 24, 25, 26, 27, 28, 29, 30, 31, 32, 33, 34, 35, 36, 37, 38, 39, 40] (by decide +kernel) (by decide +kernel)
set_option maxRecDepth 20000 in
theorem gX6_authorised_X6_fails : GoodIn wsX6_authorised (wsV RX6 93 RX6 yX6_fails wsX6_fails) := goodIn_app (goodIn_of _ (by decide +kernel)) ggX6_authorised_X6_fails
set_option maxRecDepth 20000 in
theorem ggX6_authorised_X6_authorisedOf : GoodIn wsX6_authorised wsX6_authorisedOf := goodIn_r _ [16, 17, 18, 19, 20, 21, 22, 23, 24, 25, 26, 27, 28, 29, 30, 31, 32, 33, 34, 35, 36, 37, 38, 39, 40] (by decide +kernel) (by decide +kernel)
set_option maxRecDepth 20000 in
theorem gX6_authorised_X6_authorisedOf : GoodIn wsX6_authorised (wsV RX6 111 RX6 yX6_authorisedOf wsX6_authorisedOf) := goodIn_app (goodIn_of _ (by decide +kernel)) ggX6_authorised_X6_authorisedOf
theorem dX6_authorised_0 : decode cX6_authorised 0 = .ok (.aload_n 0, 1) := by decide +kernel
theorem dX6_authorised_1 : decode cX6_authorised 1 = .ok (.iload_n 1, 1) := by decide +kernel
theorem dX6_authorised_2 : decode cX6_authorised 2 = .ok (.invokestatic 96, 3) := by decide +kernel
theorem dX6_authorised_5 : decode cX6_authorised 5 = .ok (.ifCond .eq 7, 3) := by decide +kernel
theorem dX6_authorised_8 : decode cX6_authorised 8 = .ok (.iconst 0, 1) := by decide +kernel
theorem dX6_authorised_9 : decode cX6_authorised 9 = .ok (.goto 4, 3) := by decide +kernel
theorem dX6_authorised_12 : decode cX6_authorised 12 = .ok (.iconst 1, 1) := by decide +kernel
theorem dX6_authorised_13 : decode cX6_authorised 13 = .ok (.invokevirtual 93, 3) := by decide +kernel
theorem dX6_authorised_16 : decode cX6_authorised 16 = .ok (.ifCond .eq 7, 3) := by decide +kernel
theorem dX6_authorised_19 : decode cX6_authorised 19 = .ok (.iconst 0, 1) := by decide +kernel
theorem dX6_authorised_20 : decode cX6_authorised 20 = .ok (.goto 8, 3) := by decide +kernel
theorem dX6_authorised_23 : decode cX6_authorised 23 = .ok (.aload_n 0, 1) := by decide +kernel
theorem dX6_authorised_24 : decode cX6_authorised 24 = .ok (.iload_n 1, 1) := by decide +kernel
theorem dX6_authorised_25 : decode cX6_authorised 25 = .ok (.invokevirtual 111, 3) := by decide +kernel
theorem dX6_authorised_28 : decode cX6_authorised 28 = .ok (.ireturn, 1) := by decide +kernel
set_option maxRecDepth 20000 in
theorem ggX6_protectedSeats_X6_isLeg : GoodIn wsX6_protectedSeats wsX6_isLeg := goodIn_r _ [4, 5, 6, 3, 7] (by decide +kernel) (by decide +kernel)
set_option maxRecDepth 20000 in
theorem gX6_protectedSeats_X6_isLeg : GoodIn wsX6_protectedSeats (va_wsS RX6 96 yX6_isLeg wsX6_isLeg) := goodIn_app (goodIn_of _ (by decide +kernel)) ggX6_protectedSeats_X6_isLeg
set_option maxRecDepth 20000 in
theorem ggX6_protectedSeats_X6_isIn : GoodIn wsX6_protectedSeats wsX6_isIn := goodIn_r _ [7] (by decide +kernel) (by decide +kernel)
set_option maxRecDepth 20000 in
theorem gX6_protectedSeats_X6_isIn : GoodIn wsX6_protectedSeats (va_wsS RX6 67 yX6_isIn wsX6_isIn) := goodIn_app (goodIn_of _ (by decide +kernel)) ggX6_protectedSeats_X6_isIn
set_option maxRecDepth 20000 in
theorem ggX6_protectedSeats_X6_fails : GoodIn wsX6_protectedSeats wsX6_fails := goodIn_r _ [11, 12, 23, 24, 25, 26, 27, 28, 29, 30, 31, 32, 33, 34, 35, 36, 37, 38, 39, 40, 41, 42, 43, 44] (by decide +kernel) (by decide +kernel)
set_option maxRecDepth 20000 in
theorem gX6_protectedSeats_X6_fails : GoodIn wsX6_protectedSeats (wsV RX6 93 RX6 yX6_fails wsX6_fails) := goodIn_app (goodIn_of _ (by decide +kernel)) ggX6_protectedSeats_X6_fails
set_option maxRecDepth 20000 in
theorem ggX6_protectedSeats_X6_protectedOf : GoodIn wsX6_protectedSeats wsX6_protectedOf := goodIn_r _ [16, 17, 18, 19, 20, 21, 22, 5, 6, 3, 7, 23, 24, 25, 26, 27, 28, 29, 30, 31, 32, 33, 34, 35, 36, 37, 38, 39, 40, 41, 42, 43, 44] (by decide +kernel) (by decide +kernel)
set_option maxRecDepth 20000 in
theorem gX6_protectedSeats_X6_protectedOf : GoodIn wsX6_protectedSeats (wsV RX6 114 RX6 yX6_protectedOf wsX6_protectedOf) := goodIn_app (goodIn_of _ (by decide +kernel)) ggX6_protectedSeats_X6_protectedOf
theorem dX6_protectedSeats_0 : decode cX6_protectedSeats 0 = .ok (.aload_n 0, 1) := by decide +kernel
theorem dX6_protectedSeats_1 : decode cX6_protectedSeats 1 = .ok (.iload_n 1, 1) := by decide +kernel
theorem dX6_protectedSeats_2 : decode cX6_protectedSeats 2 = .ok (.invokestatic 96, 3) := by decide +kernel
theorem dX6_protectedSeats_5 : decode cX6_protectedSeats 5 = .ok (.ifCond .ne 7, 3) := by decide +kernel
theorem dX6_protectedSeats_8 : decode cX6_protectedSeats 8 = .ok (.iconst 1, 1) := by decide +kernel
theorem dX6_protectedSeats_9 : decode cX6_protectedSeats 9 = .ok (.goto 19, 3) := by decide +kernel
theorem dX6_protectedSeats_12 : decode cX6_protectedSeats 12 = .ok (.iload_n 2, 1) := by decide +kernel
theorem dX6_protectedSeats_13 : decode cX6_protectedSeats 13 = .ok (.iconst 1, 1) := by decide +kernel
theorem dX6_protectedSeats_14 : decode cX6_protectedSeats 14 = .ok (.sipush 1000, 3) := by decide +kernel
theorem dX6_protectedSeats_17 : decode cX6_protectedSeats 17 = .ok (.invokestatic 67, 3) := by decide +kernel
theorem dX6_protectedSeats_20 : decode cX6_protectedSeats 20 = .ok (.ifCond .eq 7, 3) := by decide +kernel
theorem dX6_protectedSeats_23 : decode cX6_protectedSeats 23 = .ok (.iconst 0, 1) := by decide +kernel
theorem dX6_protectedSeats_24 : decode cX6_protectedSeats 24 = .ok (.goto 4, 3) := by decide +kernel
theorem dX6_protectedSeats_27 : decode cX6_protectedSeats 27 = .ok (.iconst 2, 1) := by decide +kernel
theorem dX6_protectedSeats_28 : decode cX6_protectedSeats 28 = .ok (.invokevirtual 93, 3) := by decide +kernel
theorem dX6_protectedSeats_31 : decode cX6_protectedSeats 31 = .ok (.ifCond .eq 7, 3) := by decide +kernel
theorem dX6_protectedSeats_34 : decode cX6_protectedSeats 34 = .ok (.iconst 0, 1) := by decide +kernel
theorem dX6_protectedSeats_35 : decode cX6_protectedSeats 35 = .ok (.goto 9, 3) := by decide +kernel
theorem dX6_protectedSeats_38 : decode cX6_protectedSeats 38 = .ok (.aload_n 0, 1) := by decide +kernel
theorem dX6_protectedSeats_39 : decode cX6_protectedSeats 39 = .ok (.iload_n 1, 1) := by decide +kernel
theorem dX6_protectedSeats_40 : decode cX6_protectedSeats 40 = .ok (.iload_n 2, 1) := by decide +kernel
theorem dX6_protectedSeats_41 : decode cX6_protectedSeats 41 = .ok (.invokevirtual 114, 3) := by decide +kernel
theorem dX6_protectedSeats_44 : decode cX6_protectedSeats 44 = .ok (.ireturn, 1) := by decide +kernel
set_option maxRecDepth 20000 in
theorem ggX6_worth_X6_finds : GoodIn wsX6_worth wsX6_finds := goodIn_r _ [6, 7, 8, 9, 10, 11, 12, 13, 5, 14, 15, 16, 17, 18, 19, 20, 21, 22, 23, 34, 35, 36, 37, 38, 39, 40, 41, 42, 43, 44, 45, 46, 47, 48, 49, 50, 51, 52, 53, 54, 55] (by decide +kernel) (by decide +kernel)
set_option maxRecDepth 20000 in
theorem gX6_worth_X6_finds : GoodIn wsX6_worth (wsV RX6 108 RX6 yX6_finds wsX6_finds) := goodIn_app (goodIn_of _ (by decide +kernel)) ggX6_worth_X6_finds
set_option maxRecDepth 20000 in
theorem ggX6_worth_X6_worthOf : GoodIn wsX6_worth wsX6_worthOf := goodIn_r _ [27, 7, 28, 29, 30, 5, 31, 32, 33, 21, 22, 23, 34, 35, 36, 37, 38, 39, 40, 41, 42, 43, 44, 45, 46, 47, 48, 49, 50, 51, 52, 53, 54, 55] (by decide +kernel) (by decide +kernel)
set_option maxRecDepth 20000 in
theorem gX6_worth_X6_worthOf : GoodIn wsX6_worth (wsV RX6 86 RX6 yX6_worthOf wsX6_worthOf) := goodIn_app (goodIn_of _ (by decide +kernel)) ggX6_worth_X6_worthOf
theorem dX6_worth_0 : decode cX6_worth 0 = .ok (.aload_n 0, 1) := by decide +kernel
theorem dX6_worth_1 : decode cX6_worth 1 = .ok (.iconst 0, 1) := by decide +kernel
theorem dX6_worth_2 : decode cX6_worth 2 = .ok (.putfield 64, 3) := by decide +kernel
theorem dX6_worth_5 : decode cX6_worth 5 = .ok (.aload_n 0, 1) := by decide +kernel
theorem dX6_worth_6 : decode cX6_worth 6 = .ok (.invokevirtual 108, 3) := by decide +kernel
theorem dX6_worth_9 : decode cX6_worth 9 = .ok (.aload_n 0, 1) := by decide +kernel
theorem dX6_worth_10 : decode cX6_worth 10 = .ok (.iconst 0, 1) := by decide +kernel
theorem dX6_worth_11 : decode cX6_worth 11 = .ok (.iconst 0, 1) := by decide +kernel
theorem dX6_worth_12 : decode cX6_worth 12 = .ok (.iconst 0, 1) := by decide +kernel
theorem dX6_worth_13 : decode cX6_worth 13 = .ok (.invokevirtual 86, 3) := by decide +kernel
theorem dX6_worth_16 : decode cX6_worth 16 = .ok (.ireturn, 1) := by decide +kernel
set_option maxRecDepth 20000 in
theorem ggX6_worthByTable_X6_finds : GoodIn wsX6_worthByTable wsX6_finds := goodIn_r _ [6, 7, 8, 9, 10, 11, 12, 13, 5, 14, 15, 16, 17, 18, 19, 20, 21, 22, 23, 34, 35, 36, 37, 38, 39, 40, 41, 42, 43, 44, 45, 46, 47, 48, 49, 50, 51, 52, 53, 54, 55] (by decide +kernel) (by decide +kernel)
set_option maxRecDepth 20000 in
theorem gX6_worthByTable_X6_finds : GoodIn wsX6_worthByTable (wsV RX6 108 RX6 yX6_finds wsX6_finds) := goodIn_app (goodIn_of _ (by decide +kernel)) ggX6_worthByTable_X6_finds
set_option maxRecDepth 20000 in
theorem ggX6_worthByTable_X6_worthOf : GoodIn wsX6_worthByTable wsX6_worthOf := goodIn_r _ [27, 7, 28, 29, 30, 5, 31, 32, 33, 21, 22, 23, 34, 35, 36, 37, 38, 39, 40, 41, 42, 43, 44, 45, 46, 47, 48, 49, 50, 51, 52, 53, 54, 55] (by decide +kernel) (by decide +kernel)
set_option maxRecDepth 20000 in
theorem gX6_worthByTable_X6_worthOf : GoodIn wsX6_worthByTable (wsV RX6 86 RX6 yX6_worthOf wsX6_worthOf) := goodIn_app (goodIn_of _ (by decide +kernel)) ggX6_worthByTable_X6_worthOf
theorem dX6_worthByTable_0 : decode cX6_worthByTable 0 = .ok (.aload_n 0, 1) := by decide +kernel
theorem dX6_worthByTable_1 : decode cX6_worthByTable 1 = .ok (.iconst 0, 1) := by decide +kernel
theorem dX6_worthByTable_2 : decode cX6_worthByTable 2 = .ok (.putfield 64, 3) := by decide +kernel
theorem dX6_worthByTable_5 : decode cX6_worthByTable 5 = .ok (.aload_n 0, 1) := by decide +kernel
theorem dX6_worthByTable_6 : decode cX6_worthByTable 6 = .ok (.invokevirtual 108, 3) := by decide +kernel
theorem dX6_worthByTable_9 : decode cX6_worthByTable 9 = .ok (.aload_n 0, 1) := by decide +kernel
theorem dX6_worthByTable_10 : decode cX6_worthByTable 10 = .ok (.iconst 0, 1) := by decide +kernel
theorem dX6_worthByTable_11 : decode cX6_worthByTable 11 = .ok (.iconst 0, 1) := by decide +kernel
theorem dX6_worthByTable_12 : decode cX6_worthByTable 12 = .ok (.iconst 0, 1) := by decide +kernel
theorem dX6_worthByTable_13 : decode cX6_worthByTable 13 = .ok (.invokevirtual 86, 3) := by decide +kernel
theorem dX6_worthByTable_16 : decode cX6_worthByTable 16 = .ok (.ireturn, 1) := by decide +kernel
set_option maxRecDepth 20000 in
theorem ggX6_bid_X6_isLeg : GoodIn wsX6_bid wsX6_isLeg := goodIn_r _ [4, 5, 6, 3, 7] (by decide +kernel) (by decide +kernel)
set_option maxRecDepth 20000 in
theorem gX6_bid_X6_isLeg : GoodIn wsX6_bid (va_wsS RX6 96 yX6_isLeg wsX6_isLeg) := goodIn_app (goodIn_of _ (by decide +kernel)) ggX6_bid_X6_isLeg
set_option maxRecDepth 20000 in
theorem ggX6_bid_X6_fails : GoodIn wsX6_bid wsX6_fails := goodIn_r _ [11, 12, 45, 46, 47, 48, 49, 50, 51, 52, 53, 54, 55, 56, 57, 58, 59, 60, 61, 62, 63, 64, 65, 66] (by decide +kernel) (by decide +kernel)
set_option maxRecDepth 20000 in
theorem gX6_bid_X6_fails : GoodIn wsX6_bid (wsV RX6 93 RX6 yX6_fails wsX6_fails) := goodIn_app (goodIn_of _ (by decide +kernel)) ggX6_bid_X6_fails
set_option maxRecDepth 20000 in
theorem ggX6_bid_X6_finds : GoodIn wsX6_bid wsX6_finds := goodIn_r _ [16, 17, 18, 19, 20, 21, 22, 23, 3, 24, 25, 26, 27, 5, 6, 7, 28, 29, 30, 45, 46, 47, 48, 49, 50, 51, 52, 53, 54, 55, 56, 57, 58, 59, 60, 61, 62, 63, 64, 65, 66] (by decide +kernel) (by decide +kernel)
set_option maxRecDepth 20000 in
theorem gX6_bid_X6_finds : GoodIn wsX6_bid (wsV RX6 108 RX6 yX6_finds wsX6_finds) := goodIn_app (goodIn_of _ (by decide +kernel)) ggX6_bid_X6_finds
set_option maxRecDepth 20000 in
theorem ggX6_bid_X6_bidOf : GoodIn wsX6_bid wsX6_bidOf := goodIn_r _ [34, 35, 36, 37, 3, 38, 17, 39, 40, 41, 42, 43, 44, 28, 29, 30, 45, 46, 47, 48, 49, 50, 51, 52, 53, 54, 55, 56, 57, 58, 59, 60, 61, 62, 63, 64, 65, 66] (by decide +kernel) (by decide +kernel)
set_option maxRecDepth 20000 in
theorem gX6_bid_X6_bidOf : GoodIn wsX6_bid (wsV RX6 118 RX6 yX6_bidOf wsX6_bidOf) := goodIn_app (goodIn_of _ (by decide +kernel)) ggX6_bid_X6_bidOf
theorem dX6_bid_0 : decode cX6_bid 0 = .ok (.aload_n 0, 1) := by decide +kernel
theorem dX6_bid_1 : decode cX6_bid 1 = .ok (.iload_n 1, 1) := by decide +kernel
theorem dX6_bid_2 : decode cX6_bid 2 = .ok (.invokestatic 96, 3) := by decide +kernel
theorem dX6_bid_5 : decode cX6_bid 5 = .ok (.ifCond .eq 7, 3) := by decide +kernel
theorem dX6_bid_8 : decode cX6_bid 8 = .ok (.iconst 0, 1) := by decide +kernel
theorem dX6_bid_9 : decode cX6_bid 9 = .ok (.goto 4, 3) := by decide +kernel
theorem dX6_bid_12 : decode cX6_bid 12 = .ok (.iconst 1, 1) := by decide +kernel
theorem dX6_bid_13 : decode cX6_bid 13 = .ok (.invokevirtual 93, 3) := by decide +kernel
theorem dX6_bid_16 : decode cX6_bid 16 = .ok (.ifCond .eq 5, 3) := by decide +kernel
theorem dX6_bid_19 : decode cX6_bid 19 = .ok (.iconst 0, 1) := by decide +kernel
theorem dX6_bid_20 : decode cX6_bid 20 = .ok (.ireturn, 1) := by decide +kernel
theorem dX6_bid_21 : decode cX6_bid 21 = .ok (.aload_n 0, 1) := by decide +kernel
theorem dX6_bid_22 : decode cX6_bid 22 = .ok (.invokevirtual 108, 3) := by decide +kernel
theorem dX6_bid_25 : decode cX6_bid 25 = .ok (.aload_n 0, 1) := by decide +kernel
theorem dX6_bid_26 : decode cX6_bid 26 = .ok (.iload_n 1, 1) := by decide +kernel
theorem dX6_bid_27 : decode cX6_bid 27 = .ok (.invokevirtual 118, 3) := by decide +kernel
theorem dX6_bid_30 : decode cX6_bid 30 = .ok (.ireturn, 1) := by decide +kernel
set_option maxRecDepth 20000 in
theorem ggX6_displaced_X6_isLeg : GoodIn wsX6_displaced wsX6_isLeg := goodIn_r _ [4, 5, 6, 3, 7] (by decide +kernel) (by decide +kernel)
set_option maxRecDepth 20000 in
theorem gX6_displaced_X6_isLeg : GoodIn wsX6_displaced (va_wsS RX6 96 yX6_isLeg wsX6_isLeg) := goodIn_app (goodIn_of _ (by decide +kernel)) ggX6_displaced_X6_isLeg
set_option maxRecDepth 20000 in
theorem ggX6_displaced_X6_isIn : GoodIn wsX6_displaced wsX6_isIn := goodIn_r _ [7] (by decide +kernel) (by decide +kernel)
set_option maxRecDepth 20000 in
theorem gX6_displaced_X6_isIn : GoodIn wsX6_displaced (va_wsS RX6 67 yX6_isIn wsX6_isIn) := goodIn_app (goodIn_of _ (by decide +kernel)) ggX6_displaced_X6_isIn
set_option maxRecDepth 20000 in
theorem ggX6_displaced_X6_fails : GoodIn wsX6_displaced wsX6_fails := goodIn_r _ [11, 12, 49, 50, 51, 52, 53, 54, 55, 56, 57, 58, 59, 60, 61, 62, 63, 64, 65, 66, 67, 68, 69, 70] (by decide +kernel) (by decide +kernel)
set_option maxRecDepth 20000 in
theorem gX6_displaced_X6_fails : GoodIn wsX6_displaced (wsV RX6 93 RX6 yX6_fails wsX6_fails) := goodIn_app (goodIn_of _ (by decide +kernel)) ggX6_displaced_X6_fails
set_option maxRecDepth 20000 in
theorem ggX6_displaced_X6_isTooFull : GoodIn wsX6_displaced wsX6_isTooFull := goodIn_r _ [16, 17, 18, 19, 3, 20, 21, 22, 49, 50, 51, 52, 53, 54, 55, 56, 57, 58, 59, 60, 61, 62, 63, 64, 65, 66, 67, 68, 69, 70] (by decide +kernel) (by decide +kernel)
set_option maxRecDepth 20000 in
theorem gX6_displaced_X6_isTooFull : GoodIn wsX6_displaced (wsV RX6 128 RX6 yX6_isTooFull wsX6_isTooFull) := goodIn_app (goodIn_of _ (by decide +kernel)) ggX6_displaced_X6_isTooFull
set_option maxRecDepth 20000 in
theorem ggX6_displaced_X6_finds : GoodIn wsX6_displaced wsX6_finds := goodIn_r _ [26, 27, 28, 29, 30, 31, 32, 33, 3, 34, 35, 36, 37, 5, 6, 7, 38, 39, 40, 49, 50, 51, 52, 53, 54, 55, 56, 57, 58, 59, 60, 61, 62, 63, 64, 65, 66, 67, 68, 69, 70] (by decide +kernel) (by decide +kernel)
set_option maxRecDepth 20000 in
theorem gX6_displaced_X6_finds : GoodIn wsX6_displaced (wsV RX6 108 RX6 yX6_finds wsX6_finds) := goodIn_app (goodIn_of _ (by decide +kernel)) ggX6_displaced_X6_finds
set_option maxRecDepth 20000 in
theorem ggX6_displaced_X6_displaces : GoodIn wsX6_displaced wsX6_displaces := goodIn_r _ [44, 45, 46, 47, 3, 48, 27, 17, 18, 19, 20, 21, 22, 38, 39, 40, 5, 6, 7, 49, 50, 51, 52, 53, 54, 55, 56, 57, 58, 59, 60, 61, 62, 63, 64, 65, 66, 67, 68, 69, 70] (by decide +kernel) (by decide +kernel)
set_option maxRecDepth 20000 in
theorem gX6_displaced_X6_displaces : GoodIn wsX6_displaced (wsV RX6 131 RX6 yX6_displaces wsX6_displaces) := goodIn_app (goodIn_of _ (by decide +kernel)) ggX6_displaced_X6_displaces
theorem dX6_displaced_0 : decode cX6_displaced 0 = .ok (.iload_n 1, 1) := by decide +kernel
theorem dX6_displaced_1 : decode cX6_displaced 1 = .ok (.invokestatic 96, 3) := by decide +kernel
theorem dX6_displaced_4 : decode cX6_displaced 4 = .ok (.ifCond .eq 14, 3) := by decide +kernel
theorem dX6_displaced_7 : decode cX6_displaced 7 = .ok (.iload_n 2, 1) := by decide +kernel
theorem dX6_displaced_8 : decode cX6_displaced 8 = .ok (.invokestatic 96, 3) := by decide +kernel
theorem dX6_displaced_11 : decode cX6_displaced 11 = .ok (.ifCond .eq 7, 3) := by decide +kernel
theorem dX6_displaced_14 : decode cX6_displaced 14 = .ok (.iconst 1, 1) := by decide +kernel
theorem dX6_displaced_15 : decode cX6_displaced 15 = .ok (.goto 4, 3) := by decide +kernel
theorem dX6_displaced_18 : decode cX6_displaced 18 = .ok (.iconst 0, 1) := by decide +kernel
theorem dX6_displaced_19 : decode cX6_displaced 19 = .ok (.istore 4, 2) := by decide +kernel
theorem dX6_displaced_21 : decode cX6_displaced 21 = .ok (.iload_n 2, 1) := by decide +kernel
theorem dX6_displaced_22 : decode cX6_displaced 22 = .ok (.iload_n 1, 1) := by decide +kernel
theorem dX6_displaced_23 : decode cX6_displaced 23 = .ok (.if_icmp .lt 17, 3) := by decide +kernel
theorem dX6_displaced_26 : decode cX6_displaced 26 = .ok (.iload_n 3, 1) := by decide +kernel
theorem dX6_displaced_27 : decode cX6_displaced 27 = .ok (.iconst 1, 1) := by decide +kernel
theorem dX6_displaced_28 : decode cX6_displaced 28 = .ok (.bipush 10, 2) := by decide +kernel
theorem dX6_displaced_30 : decode cX6_displaced 30 = .ok (.invokestatic 67, 3) := by decide +kernel
theorem dX6_displaced_33 : decode cX6_displaced 33 = .ok (.ifCond .eq 7, 3) := by decide +kernel
theorem dX6_displaced_36 : decode cX6_displaced 36 = .ok (.iconst 1, 1) := by decide +kernel
theorem dX6_displaced_37 : decode cX6_displaced 37 = .ok (.goto 4, 3) := by decide +kernel
theorem dX6_displaced_40 : decode cX6_displaced 40 = .ok (.iconst 0, 1) := by decide +kernel
theorem dX6_displaced_41 : decode cX6_displaced 41 = .ok (.istore 5, 2) := by decide +kernel
theorem dX6_displaced_43 : decode cX6_displaced 43 = .ok (.aload_n 0, 1) := by decide +kernel
theorem dX6_displaced_44 : decode cX6_displaced 44 = .ok (.iload 4, 2) := by decide +kernel
theorem dX6_displaced_46 : decode cX6_displaced 46 = .ok (.ifCond .ne 7, 3) := by decide +kernel
theorem dX6_displaced_49 : decode cX6_displaced 49 = .ok (.iconst 1, 1) := by decide +kernel
theorem dX6_displaced_50 : decode cX6_displaced 50 = .ok (.goto 13, 3) := by decide +kernel
theorem dX6_displaced_53 : decode cX6_displaced 53 = .ok (.iload 5, 2) := by decide +kernel
theorem dX6_displaced_55 : decode cX6_displaced 55 = .ok (.ifCond .eq 7, 3) := by decide +kernel
theorem dX6_displaced_58 : decode cX6_displaced 58 = .ok (.iconst 0, 1) := by decide +kernel
theorem dX6_displaced_59 : decode cX6_displaced 59 = .ok (.goto 4, 3) := by decide +kernel
theorem dX6_displaced_62 : decode cX6_displaced 62 = .ok (.iconst 2, 1) := by decide +kernel
theorem dX6_displaced_63 : decode cX6_displaced 63 = .ok (.invokevirtual 93, 3) := by decide +kernel
theorem dX6_displaced_66 : decode cX6_displaced 66 = .ok (.ifCond .eq 5, 3) := by decide +kernel
theorem dX6_displaced_69 : decode cX6_displaced 69 = .ok (.iconst 0, 1) := by decide +kernel
theorem dX6_displaced_70 : decode cX6_displaced 70 = .ok (.ireturn, 1) := by decide +kernel
theorem dX6_displaced_71 : decode cX6_displaced 71 = .ok (.aload_n 0, 1) := by decide +kernel
theorem dX6_displaced_72 : decode cX6_displaced 72 = .ok (.iload_n 1, 1) := by decide +kernel
theorem dX6_displaced_73 : decode cX6_displaced 73 = .ok (.iload_n 2, 1) := by decide +kernel
theorem dX6_displaced_74 : decode cX6_displaced 74 = .ok (.iload_n 3, 1) := by decide +kernel
theorem dX6_displaced_75 : decode cX6_displaced 75 = .ok (.invokevirtual 128, 3) := by decide +kernel
theorem dX6_displaced_78 : decode cX6_displaced 78 = .ok (.ifCond .eq 5, 3) := by decide +kernel
theorem dX6_displaced_81 : decode cX6_displaced 81 = .ok (.iconst (-1), 1) := by decide +kernel
theorem dX6_displaced_82 : decode cX6_displaced 82 = .ok (.ireturn, 1) := by decide +kernel
theorem dX6_displaced_83 : decode cX6_displaced 83 = .ok (.aload_n 0, 1) := by decide +kernel
theorem dX6_displaced_84 : decode cX6_displaced 84 = .ok (.invokevirtual 108, 3) := by decide +kernel
theorem dX6_displaced_87 : decode cX6_displaced 87 = .ok (.aload_n 0, 1) := by decide +kernel
theorem dX6_displaced_88 : decode cX6_displaced 88 = .ok (.iload_n 1, 1) := by decide +kernel
theorem dX6_displaced_89 : decode cX6_displaced 89 = .ok (.iload_n 2, 1) := by decide +kernel
theorem dX6_displaced_90 : decode cX6_displaced 90 = .ok (.iload_n 3, 1) := by decide +kernel
theorem dX6_displaced_91 : decode cX6_displaced 91 = .ok (.invokevirtual 131, 3) := by decide +kernel
theorem dX6_displaced_94 : decode cX6_displaced 94 = .ok (.ireturn, 1) := by decide +kernel
set_option maxRecDepth 20000 in
theorem ggX6_of_X6_isProduct : GoodIn wsX6_of wsX6_isProduct := goodIn_r _ [5, 6, 7, 8, 4, 9, 15, 16, 17, 18, 19, 20, 21, 22, 23, 24, 25, 26, 27, 28, 29, 30, 31, 32, 33, 34, 35, 36] (by decide +kernel) (by decide +kernel)
set_option maxRecDepth 20000 in
theorem gX6_of_X6_isProduct : GoodIn wsX6_of (wsV RX6 102 RX6 yX6_isProduct wsX6_isProduct) := goodIn_app (goodIn_of _ (by decide +kernel)) ggX6_of_X6_isProduct
set_option maxRecDepth 20000 in
theorem ggX6_of_X6_fails : GoodIn wsX6_of wsX6_fails := goodIn_r _ [13, 14, 15, 16, 17, 18, 19, 20, 21, 22, 23, 24, 25, 26, 27, 28, 29, 30, 31, 32, 33, 34, 35, 36] (by decide +kernel) (by decide +kernel)
set_option maxRecDepth 20000 in
theorem gX6_of_X6_fails : GoodIn wsX6_of (wsV RX6 93 RX6 yX6_fails wsX6_fails) := goodIn_app (goodIn_of _ (by decide +kernel)) ggX6_of_X6_fails
theorem dX6_of_0 : decode cX6_of 0 = .ok (.aload_n 0, 1) := by decide +kernel
theorem dX6_of_1 : decode cX6_of 1 = .ok (.aload_n 0, 1) := by decide +kernel
theorem dX6_of_2 : decode cX6_of 2 = .ok (.iload_n 2, 1) := by decide +kernel
theorem dX6_of_3 : decode cX6_of 3 = .ok (.invokevirtual 102, 3) := by decide +kernel
theorem dX6_of_6 : decode cX6_of 6 = .ok (.ifCond .eq 7, 3) := by decide +kernel
theorem dX6_of_9 : decode cX6_of 9 = .ok (.iconst 0, 1) := by decide +kernel
theorem dX6_of_10 : decode cX6_of 10 = .ok (.goto 4, 3) := by decide +kernel
theorem dX6_of_13 : decode cX6_of 13 = .ok (.iconst 1, 1) := by decide +kernel
theorem dX6_of_14 : decode cX6_of 14 = .ok (.invokevirtual 93, 3) := by decide +kernel
theorem dX6_of_17 : decode cX6_of 17 = .ok (.ifCond .eq 7, 3) := by decide +kernel
theorem dX6_of_20 : decode cX6_of 20 = .ok (.iconst 0, 1) := by decide +kernel
theorem dX6_of_21 : decode cX6_of 21 = .ok (.goto 6, 3) := by decide +kernel
theorem dX6_of_24 : decode cX6_of 24 = .ok (.aload_n 1, 1) := by decide +kernel
theorem dX6_of_25 : decode cX6_of 25 = .ok (.iload_n 2, 1) := by decide +kernel
theorem dX6_of_26 : decode cX6_of 26 = .ok (.iaload, 1) := by decide +kernel
theorem dX6_of_27 : decode cX6_of 27 = .ok (.ireturn, 1) := by decide +kernel
set_option maxRecDepth 20000 in
theorem ggX6_expected_X6_of : GoodIn wsX6_expected wsX6_of := goodIn_r _ [6, 7, 8, 9, 5, 10, 11, 12, 13, 14, 15, 16, 17, 18, 19, 20, 21, 22, 23, 24, 25, 26, 27, 28, 29, 30, 31, 32, 33, 34, 35, 36, 37, 38, 39, 40, 41] (by decide +kernel) (by decide +kernel)
set_option maxRecDepth 20000 in
theorem gX6_expected_X6_of : GoodIn wsX6_expected (wsV RX6 145 RX6 yX6_of wsX6_of) := goodIn_app (goodIn_of _ (by decide +kernel)) ggX6_expected_X6_of
theorem dX6_expected_0 : decode cX6_expected 0 = .ok (.aload_n 0, 1) := by decide +kernel
theorem dX6_expected_1 : decode cX6_expected 1 = .ok (.aload_n 0, 1) := by decide +kernel
theorem dX6_expected_2 : decode cX6_expected 2 = .ok (.getfield 25, 3) := by decide +kernel
theorem dX6_expected_5 : decode cX6_expected 5 = .ok (.iload_n 1, 1) := by decide +kernel
theorem dX6_expected_6 : decode cX6_expected 6 = .ok (.invokevirtual 145, 3) := by decide +kernel
theorem dX6_expected_9 : decode cX6_expected 9 = .ok (.ireturn, 1) := by decide +kernel
set_option maxRecDepth 20000 in
theorem ggX6_average_X6_isProduct : GoodIn wsX6_average wsX6_isProduct := goodIn_r _ [7, 8, 9, 10, 6, 11, 17, 18, 19, 20, 21, 22, 23, 24, 25, 26, 27, 28, 29, 30, 31, 32, 33, 34, 35, 36, 37, 38] (by decide +kernel) (by decide +kernel)
set_option maxRecDepth 20000 in
theorem gX6_average_X6_isProduct : GoodIn wsX6_average (wsV RX6 102 RX6 yX6_isProduct wsX6_isProduct) := goodIn_app (goodIn_of _ (by decide +kernel)) ggX6_average_X6_isProduct
set_option maxRecDepth 20000 in
theorem ggX6_average_X6_fails : GoodIn wsX6_average wsX6_fails := goodIn_r _ [15, 16, 17, 18, 19, 20, 21, 22, 23, 24, 25, 26, 27, 28, 29, 30, 31, 32, 33, 34, 35, 36, 37, 38] (by decide +kernel) (by decide +kernel)
set_option maxRecDepth 20000 in
theorem gX6_average_X6_fails : GoodIn wsX6_average (wsV RX6 93 RX6 yX6_fails wsX6_fails) := goodIn_app (goodIn_of _ (by decide +kernel)) ggX6_average_X6_fails
theorem dX6_average_0 : decode cX6_average 0 = .ok (.aload_n 0, 1) := by decide +kernel
theorem dX6_average_1 : decode cX6_average 1 = .ok (.aload_n 0, 1) := by decide +kernel
theorem dX6_average_2 : decode cX6_average 2 = .ok (.iload_n 1, 1) := by decide +kernel
theorem dX6_average_3 : decode cX6_average 3 = .ok (.invokevirtual 102, 3) := by decide +kernel
theorem dX6_average_6 : decode cX6_average 6 = .ok (.ifCond .eq 7, 3) := by decide +kernel
theorem dX6_average_9 : decode cX6_average 9 = .ok (.iconst 0, 1) := by decide +kernel
theorem dX6_average_10 : decode cX6_average 10 = .ok (.goto 4, 3) := by decide +kernel
theorem dX6_average_13 : decode cX6_average 13 = .ok (.iconst 1, 1) := by decide +kernel
theorem dX6_average_14 : decode cX6_average 14 = .ok (.invokevirtual 93, 3) := by decide +kernel
theorem dX6_average_17 : decode cX6_average 17 = .ok (.ifCond .ne 10, 3) := by decide +kernel
theorem dX6_average_20 : decode cX6_average 20 = .ok (.aload_n 0, 1) := by decide +kernel
theorem dX6_average_21 : decode cX6_average 21 = .ok (.getfield 99, 3) := by decide +kernel
theorem dX6_average_24 : decode cX6_average 24 = .ok (.ifCond .ne 7, 3) := by decide +kernel
theorem dX6_average_27 : decode cX6_average 27 = .ok (.fconst 0, 1) := by decide +kernel
theorem dX6_average_28 : decode cX6_average 28 = .ok (.goto 16, 3) := by decide +kernel
theorem dX6_average_31 : decode cX6_average 31 = .ok (.aload_n 0, 1) := by decide +kernel
theorem dX6_average_32 : decode cX6_average 32 = .ok (.getfield 31, 3) := by decide +kernel
theorem dX6_average_35 : decode cX6_average 35 = .ok (.iload_n 1, 1) := by decide +kernel
theorem dX6_average_36 : decode cX6_average 36 = .ok (.laload, 1) := by decide +kernel
theorem dX6_average_37 : decode cX6_average 37 = .ok (.l2f, 1) := by decide +kernel
theorem dX6_average_38 : decode cX6_average 38 = .ok (.aload_n 0, 1) := by decide +kernel
theorem dX6_average_39 : decode cX6_average 39 = .ok (.getfield 99, 3) := by decide +kernel
theorem dX6_average_42 : decode cX6_average 42 = .ok (.i2f, 1) := by decide +kernel
theorem dX6_average_43 : decode cX6_average 43 = .ok (.fdiv, 1) := by decide +kernel
theorem dX6_average_44 : decode cX6_average 44 = .ok (.freturn, 1) := by decide +kernel
set_option maxRecDepth 20000 in
theorem ggX6_asked_X6_of : GoodIn wsX6_asked wsX6_of := goodIn_r _ [6, 7, 8, 9, 5, 10, 11, 12, 13, 14, 15, 16, 17, 18, 19, 20, 21, 22, 23, 24, 25, 26, 27, 28, 29, 30, 31, 32, 33, 34, 35, 36, 37, 38, 39, 40, 41] (by decide +kernel) (by decide +kernel)
set_option maxRecDepth 20000 in
theorem gX6_asked_X6_of : GoodIn wsX6_asked (wsV RX6 145 RX6 yX6_of wsX6_of) := goodIn_app (goodIn_of _ (by decide +kernel)) ggX6_asked_X6_of
theorem dX6_asked_0 : decode cX6_asked 0 = .ok (.aload_n 0, 1) := by decide +kernel
theorem dX6_asked_1 : decode cX6_asked 1 = .ok (.aload_n 0, 1) := by decide +kernel
theorem dX6_asked_2 : decode cX6_asked 2 = .ok (.getfield 28, 3) := by decide +kernel
theorem dX6_asked_5 : decode cX6_asked 5 = .ok (.iload_n 1, 1) := by decide +kernel
theorem dX6_asked_6 : decode cX6_asked 6 = .ok (.invokevirtual 145, 3) := by decide +kernel
theorem dX6_asked_9 : decode cX6_asked 9 = .ok (.ireturn, 1) := by decide +kernel
set_option maxRecDepth 20000 in
theorem ggX6_refused_X6_isIn : GoodIn wsX6_refused wsX6_isIn := goodIn_r _ [5] (by decide +kernel) (by decide +kernel)
set_option maxRecDepth 20000 in
theorem gX6_refused_X6_isIn : GoodIn wsX6_refused (va_wsS RX6 67 yX6_isIn wsX6_isIn) := goodIn_app (goodIn_of _ (by decide +kernel)) ggX6_refused_X6_isIn
set_option maxRecDepth 20000 in
theorem ggX6_refused_X6_fails : GoodIn wsX6_refused wsX6_fails := goodIn_r _ [9, 10, 11, 12, 13, 14, 15, 16, 17, 18, 19, 20, 21, 22, 23, 24, 25, 26, 27, 28, 29, 30, 31, 32] (by decide +kernel) (by decide +kernel)
set_option maxRecDepth 20000 in
theorem gX6_refused_X6_fails : GoodIn wsX6_refused (wsV RX6 93 RX6 yX6_fails wsX6_fails) := goodIn_app (goodIn_of _ (by decide +kernel)) ggX6_refused_X6_fails
theorem dX6_refused_0 : decode cX6_refused 0 = .ok (.aload_n 0, 1) := by decide +kernel
theorem dX6_refused_1 : decode cX6_refused 1 = .ok (.iload_n 1, 1) := by decide +kernel
theorem dX6_refused_2 : decode cX6_refused 2 = .ok (.bipush (-3), 2) := by decide +kernel
theorem dX6_refused_4 : decode cX6_refused 4 = .ok (.iconst (-1), 1) := by decide +kernel
theorem dX6_refused_5 : decode cX6_refused 5 = .ok (.invokestatic 67, 3) := by decide +kernel
theorem dX6_refused_8 : decode cX6_refused 8 = .ok (.ifCond .eq 7, 3) := by decide +kernel
theorem dX6_refused_11 : decode cX6_refused 11 = .ok (.iconst 0, 1) := by decide +kernel
theorem dX6_refused_12 : decode cX6_refused 12 = .ok (.goto 4, 3) := by decide +kernel
theorem dX6_refused_15 : decode cX6_refused 15 = .ok (.iconst 1, 1) := by decide +kernel
theorem dX6_refused_16 : decode cX6_refused 16 = .ok (.invokevirtual 93, 3) := by decide +kernel
theorem dX6_refused_19 : decode cX6_refused 19 = .ok (.ifCond .eq 7, 3) := by decide +kernel
theorem dX6_refused_22 : decode cX6_refused 22 = .ok (.iconst 0, 1) := by decide +kernel
theorem dX6_refused_23 : decode cX6_refused 23 = .ok (.goto 10, 3) := by decide +kernel
theorem dX6_refused_26 : decode cX6_refused 26 = .ok (.aload_n 0, 1) := by decide +kernel
theorem dX6_refused_27 : decode cX6_refused 27 = .ok (.getfield 58, 3) := by decide +kernel
theorem dX6_refused_30 : decode cX6_refused 30 = .ok (.iload_n 1, 1) := by decide +kernel
theorem dX6_refused_31 : decode cX6_refused 31 = .ok (.ineg, 1) := by decide +kernel
theorem dX6_refused_32 : decode cX6_refused 32 = .ok (.iaload, 1) := by decide +kernel
theorem dX6_refused_33 : decode cX6_refused 33 = .ok (.ireturn, 1) := by decide +kernel
set_option maxRecDepth 20000 in
theorem ggX6_revenue_X6_sold : GoodIn wsX6_revenue wsX6_sold := goodIn_r _ [5, 6, 7, 8, 14, 15, 16, 17, 18, 19, 20, 21, 22, 23, 24, 25, 26, 27, 28, 29, 30, 31, 32, 33, 34, 35] (by decide +kernel) (by decide +kernel)
set_option maxRecDepth 20000 in
theorem gX6_revenue_X6_sold : GoodIn wsX6_revenue (wsV RX6 138 RX6 yX6_sold wsX6_sold) := goodIn_app (goodIn_of _ (by decide +kernel)) ggX6_revenue_X6_sold
set_option maxRecDepth 20000 in
theorem ggX6_revenue_X6_tells : GoodIn wsX6_revenue wsX6_tells := goodIn_r _ [12, 13, 14, 15, 16, 17, 18, 19, 20, 21, 22, 23, 24, 25, 26, 27, 28, 29, 30, 31, 32, 33, 34, 35] (by decide +kernel) (by decide +kernel)
set_option maxRecDepth 20000 in
theorem gX6_revenue_X6_tells : GoodIn wsX6_revenue (wsV RX6 142 RX6 yX6_tells wsX6_tells) := goodIn_app (goodIn_of _ (by decide +kernel)) ggX6_revenue_X6_tells
theorem dX6_revenue_0 : decode cX6_revenue 0 = .ok (.aload_n 0, 1) := by decide +kernel
theorem dX6_revenue_1 : decode cX6_revenue 1 = .ok (.aload_n 0, 1) := by decide +kernel
theorem dX6_revenue_2 : decode cX6_revenue 2 = .ok (.invokevirtual 138, 3) := by decide +kernel
theorem dX6_revenue_5 : decode cX6_revenue 5 = .ok (.invokevirtual 142, 3) := by decide +kernel
theorem dX6_revenue_8 : decode cX6_revenue 8 = .ok (.ireturn, 1) := by decide +kernel
theorem dX6_earned_0 : decode cX6_earned 0 = .ok (.aload_n 0, 1) := by decide +kernel
theorem dX6_earned_1 : decode cX6_earned 1 = .ok (.iconst 0, 1) := by decide +kernel
theorem dX6_earned_2 : decode cX6_earned 2 = .ok (.putfield 64, 3) := by decide +kernel
theorem dX6_earned_5 : decode cX6_earned 5 = .ok (.aload_n 0, 1) := by decide +kernel
theorem dX6_earned_6 : decode cX6_earned 6 = .ok (.getfield 134, 3) := by decide +kernel
theorem dX6_earned_9 : decode cX6_earned 9 = .ok (.lreturn, 1) := by decide +kernel
theorem dJ9_max_7cf53_0 : decode cJ9_max_7cf53 0 = .ok (.iload_n 0, 1) := by decide +kernel
theorem dJ9_max_7cf53_1 : decode cJ9_max_7cf53 1 = .ok (.iload_n 1, 1) := by decide +kernel
theorem dJ9_max_7cf53_2 : decode cJ9_max_7cf53 2 = .ok (.if_icmp .lt 7, 3) := by decide +kernel
theorem dJ9_max_7cf53_5 : decode cJ9_max_7cf53 5 = .ok (.iload_n 0, 1) := by decide +kernel
theorem dJ9_max_7cf53_6 : decode cJ9_max_7cf53 6 = .ok (.goto 4, 3) := by decide +kernel
theorem dJ9_max_7cf53_9 : decode cJ9_max_7cf53 9 = .ok (.iload_n 1, 1) := by decide +kernel
theorem dJ9_max_7cf53_10 : decode cJ9_max_7cf53 10 = .ok (.ireturn, 1) := by decide +kernel
theorem dJ9_min_7cf53_0 : decode cJ9_min_7cf53 0 = .ok (.iload_n 0, 1) := by decide +kernel
theorem dJ9_min_7cf53_1 : decode cJ9_min_7cf53 1 = .ok (.iload_n 1, 1) := by decide +kernel
theorem dJ9_min_7cf53_2 : decode cJ9_min_7cf53 2 = .ok (.if_icmp .gt 7, 3) := by decide +kernel
theorem dJ9_min_7cf53_5 : decode cJ9_min_7cf53 5 = .ok (.iload_n 0, 1) := by decide +kernel
theorem dJ9_min_7cf53_6 : decode cJ9_min_7cf53 6 = .ok (.goto 4, 3) := by decide +kernel
theorem dJ9_min_7cf53_9 : decode cJ9_min_7cf53 9 = .ok (.iload_n 1, 1) := by decide +kernel
theorem dJ9_min_7cf53_10 : decode cJ9_min_7cf53 10 = .ok (.ireturn, 1) := by decide +kernel
theorem dJ7_fill_53178_0 : decode cJ7_fill_53178 0 = .ok (.iconst 0, 1) := by decide +kernel
theorem dJ7_fill_53178_1 : decode cJ7_fill_53178 1 = .ok (.istore_n 2, 1) := by decide +kernel
theorem dJ7_fill_53178_2 : decode cJ7_fill_53178 2 = .ok (.aload_n 0, 1) := by decide +kernel
theorem dJ7_fill_53178_3 : decode cJ7_fill_53178 3 = .ok (.arraylength, 1) := by decide +kernel
theorem dJ7_fill_53178_4 : decode cJ7_fill_53178 4 = .ok (.istore_n 3, 1) := by decide +kernel
theorem dJ7_fill_53178_5 : decode cJ7_fill_53178 5 = .ok (.iload_n 2, 1) := by decide +kernel
theorem dJ7_fill_53178_6 : decode cJ7_fill_53178 6 = .ok (.iload_n 3, 1) := by decide +kernel
theorem dJ7_fill_53178_7 : decode cJ7_fill_53178 7 = .ok (.if_icmp .ge 13, 3) := by decide +kernel
theorem dJ7_fill_53178_10 : decode cJ7_fill_53178 10 = .ok (.aload_n 0, 1) := by decide +kernel
theorem dJ7_fill_53178_11 : decode cJ7_fill_53178 11 = .ok (.iload_n 2, 1) := by decide +kernel
theorem dJ7_fill_53178_12 : decode cJ7_fill_53178 12 = .ok (.iload_n 1, 1) := by decide +kernel
theorem dJ7_fill_53178_13 : decode cJ7_fill_53178 13 = .ok (.iastore, 1) := by decide +kernel
theorem dJ7_fill_53178_14 : decode cJ7_fill_53178 14 = .ok (.iinc 2 1, 3) := by decide +kernel
theorem dJ7_fill_53178_17 : decode cJ7_fill_53178 17 = .ok (.goto (-12), 3) := by decide +kernel
theorem dJ7_fill_53178_20 : decode cJ7_fill_53178 20 = .ok (.return_, 1) := by decide +kernel
set_option maxRecDepth 20000 in
theorem ggL_setSeats_X5_setSeats : GoodIn wsL_setSeats wsX5_setSeats := goodIn_ca (goodIn_r _ [6, 7, 8, 9, 10, 5, 11, 12, 13, 14, 15, 16, 17, 18, 19, 20, 21, 22, 23, 24, 25, 26, 27, 28, 29, 30] (by decide +kernel) (by decide +kernel)) (goodIn_sub (fun _ h => List.mem_cons_of_mem _ (List.mem_append_right _ h)) (by decide +kernel))
set_option maxRecDepth 20000 in
theorem gL_setSeats_X5_setSeats : GoodIn wsL_setSeats (wsV RL 7 RX5 yX5_setSeats wsX5_setSeats) := goodIn_app (goodIn_of _ (by decide +kernel)) ggL_setSeats_X5_setSeats
theorem dL_setSeats_0 : decode cL_setSeats 0 = .ok (.aload_n 0, 1) := by decide +kernel
theorem dL_setSeats_1 : decode cL_setSeats 1 = .ok (.iload_n 1, 1) := by decide +kernel
theorem dL_setSeats_2 : decode cL_setSeats 2 = .ok (.iload_n 2, 1) := by decide +kernel
theorem dL_setSeats_3 : decode cL_setSeats 3 = .ok (.iload_n 3, 1) := by decide +kernel
theorem dL_setSeats_4 : decode cL_setSeats 4 = .ok (.invokevirtual 7, 3) := by decide +kernel
theorem dL_setSeats_7 : decode cL_setSeats 7 = .ok (.goto 7, 3) := by decide +kernel
theorem dL_setSeats_10 : decode cL_setSeats 10 = .ok (.astore 4, 2) := by decide +kernel
theorem dL_setSeats_12 : decode cL_setSeats 12 = .ok (.iconst 1, 1) := by decide +kernel
theorem dL_setSeats_13 : decode cL_setSeats 13 = .ok (.ireturn, 1) := by decide +kernel
theorem dL_setSeats_14 : decode cL_setSeats 14 = .ok (.iconst 0, 1) := by decide +kernel
theorem dL_setSeats_15 : decode cL_setSeats 15 = .ok (.ireturn, 1) := by decide +kernel
set_option maxRecDepth 20000 in
theorem ggL_addProduct_X5_addProduct : GoodIn wsL_addProduct wsX5_addProduct := goodIn_ca (goodIn_ca (goodIn_ca (goodIn_r _ [8, 9, 10, 11, 12, 13, 14, 15, 16, 17, 18, 19, 20, 21, 7, 22, 23, 24, 25, 26, 27, 28, 29, 30, 31, 32, 33, 34, 35, 36, 37, 38, 39, 40, 41, 42, 43, 44, 45, 46, 47, 48, 49, 50, 51, 52, 53, 54, 55, 56, 57, 58, 59, 60, 61, 62, 63, 64, 65, 66, 67, 68, 69] (by decide +kernel) (by decide +kernel)) (goodIn_sub (fun _ h => List.mem_cons_of_mem _ (List.mem_append_left _ (List.mem_append_left _ (List.mem_append_right _ h)))) (by decide +kernel))) (goodIn_sub (fun _ h => List.mem_cons_of_mem _ (List.mem_append_left _ (List.mem_append_right _ h))) (by decide +kernel))) (goodIn_sub (fun _ h => List.mem_cons_of_mem _ (List.mem_append_right _ h)) (by decide +kernel))
set_option maxRecDepth 20000 in
theorem gL_addProduct_X5_addProduct : GoodIn wsL_addProduct (wsV RL 15 RX5 yX5_addProduct wsX5_addProduct) := goodIn_app (goodIn_of _ (by decide +kernel)) ggL_addProduct_X5_addProduct
theorem dL_addProduct_0 : decode cL_addProduct 0 = .ok (.aload 4, 2) := by decide +kernel
theorem dL_addProduct_2 : decode cL_addProduct 2 = .ok (.iconst 0, 1) := by decide +kernel
theorem dL_addProduct_3 : decode cL_addProduct 3 = .ok (.aload_n 0, 1) := by decide +kernel
theorem dL_addProduct_4 : decode cL_addProduct 4 = .ok (.iload_n 1, 1) := by decide +kernel
theorem dL_addProduct_5 : decode cL_addProduct 5 = .ok (.iload_n 2, 1) := by decide +kernel
theorem dL_addProduct_6 : decode cL_addProduct 6 = .ok (.iload_n 3, 1) := by decide +kernel
theorem dL_addProduct_7 : decode cL_addProduct 7 = .ok (.invokevirtual 15, 3) := by decide +kernel
theorem dL_addProduct_10 : decode cL_addProduct 10 = .ok (.i2l, 1) := by decide +kernel
theorem dL_addProduct_11 : decode cL_addProduct 11 = .ok (.lastore, 1) := by decide +kernel
theorem dL_addProduct_12 : decode cL_addProduct 12 = .ok (.goto 15, 3) := by decide +kernel
theorem dL_addProduct_15 : decode cL_addProduct 15 = .ok (.astore 5, 2) := by decide +kernel
theorem dL_addProduct_17 : decode cL_addProduct 17 = .ok (.iconst 1, 1) := by decide +kernel
theorem dL_addProduct_18 : decode cL_addProduct 18 = .ok (.ireturn, 1) := by decide +kernel
theorem dL_addProduct_19 : decode cL_addProduct 19 = .ok (.astore 5, 2) := by decide +kernel
theorem dL_addProduct_21 : decode cL_addProduct 21 = .ok (.iconst 2, 1) := by decide +kernel
theorem dL_addProduct_22 : decode cL_addProduct 22 = .ok (.ireturn, 1) := by decide +kernel
theorem dL_addProduct_23 : decode cL_addProduct 23 = .ok (.astore 5, 2) := by decide +kernel
theorem dL_addProduct_25 : decode cL_addProduct 25 = .ok (.iconst 3, 1) := by decide +kernel
theorem dL_addProduct_26 : decode cL_addProduct 26 = .ok (.ireturn, 1) := by decide +kernel
theorem dL_addProduct_27 : decode cL_addProduct 27 = .ok (.iconst 0, 1) := by decide +kernel
theorem dL_addProduct_28 : decode cL_addProduct 28 = .ok (.ireturn, 1) := by decide +kernel
set_option maxRecDepth 20000 in
theorem ggL_setExpected_X5_setExpected : GoodIn wsL_setExpected wsX5_setExpected := goodIn_ca (goodIn_ca (goodIn_r _ [7, 8, 9, 10, 11, 12, 13, 14, 6, 15, 16, 17, 18, 19, 20, 21, 22, 23, 24, 25, 26, 27, 28, 29, 30, 31, 32, 33, 34, 35, 36, 37, 38, 39, 40] (by decide +kernel) (by decide +kernel)) (goodIn_sub (fun _ h => List.mem_cons_of_mem _ (List.mem_append_left _ (List.mem_append_right _ h))) (by decide +kernel))) (goodIn_sub (fun _ h => List.mem_cons_of_mem _ (List.mem_append_right _ h)) (by decide +kernel))
set_option maxRecDepth 20000 in
theorem gL_setExpected_X5_setExpected : GoodIn wsL_setExpected (wsV RL 23 RX5 yX5_setExpected wsX5_setExpected) := goodIn_app (goodIn_of _ (by decide +kernel)) ggL_setExpected_X5_setExpected
theorem dL_setExpected_0 : decode cL_setExpected 0 = .ok (.aload_n 3, 1) := by decide +kernel
theorem dL_setExpected_1 : decode cL_setExpected 1 = .ok (.iconst 0, 1) := by decide +kernel
theorem dL_setExpected_2 : decode cL_setExpected 2 = .ok (.aload_n 0, 1) := by decide +kernel
theorem dL_setExpected_3 : decode cL_setExpected 3 = .ok (.iload_n 1, 1) := by decide +kernel
theorem dL_setExpected_4 : decode cL_setExpected 4 = .ok (.iload_n 2, 1) := by decide +kernel
theorem dL_setExpected_5 : decode cL_setExpected 5 = .ok (.invokevirtual 23, 3) := by decide +kernel
theorem dL_setExpected_8 : decode cL_setExpected 8 = .ok (.i2l, 1) := by decide +kernel
theorem dL_setExpected_9 : decode cL_setExpected 9 = .ok (.lastore, 1) := by decide +kernel
theorem dL_setExpected_10 : decode cL_setExpected 10 = .ok (.goto 11, 3) := by decide +kernel
theorem dL_setExpected_13 : decode cL_setExpected 13 = .ok (.astore 4, 2) := by decide +kernel
theorem dL_setExpected_15 : decode cL_setExpected 15 = .ok (.iconst 1, 1) := by decide +kernel
theorem dL_setExpected_16 : decode cL_setExpected 16 = .ok (.ireturn, 1) := by decide +kernel
theorem dL_setExpected_17 : decode cL_setExpected 17 = .ok (.astore 4, 2) := by decide +kernel
theorem dL_setExpected_19 : decode cL_setExpected 19 = .ok (.iconst 2, 1) := by decide +kernel
theorem dL_setExpected_20 : decode cL_setExpected 20 = .ok (.ireturn, 1) := by decide +kernel
theorem dL_setExpected_21 : decode cL_setExpected 21 = .ok (.iconst 0, 1) := by decide +kernel
theorem dL_setExpected_22 : decode cL_setExpected 22 = .ok (.ireturn, 1) := by decide +kernel
set_option maxRecDepth 20000 in
theorem ggL_setRate_X5_setRate : GoodIn wsL_setRate wsX5_setRate := goodIn_ca (goodIn_r _ [6, 7, 8, 9, 10, 11, 5, 12, 13, 14, 15, 16, 17, 18, 19, 20, 21, 22, 23, 24, 25, 26] (by decide +kernel) (by decide +kernel)) (goodIn_sub (fun _ h => List.mem_cons_of_mem _ (List.mem_append_right _ h)) (by decide +kernel))
set_option maxRecDepth 20000 in
theorem gL_setRate_X5_setRate : GoodIn wsL_setRate (wsV RL 27 RX5 yX5_setRate wsX5_setRate) := goodIn_app (goodIn_of _ (by decide +kernel)) ggL_setRate_X5_setRate
theorem dL_setRate_0 : decode cL_setRate 0 = .ok (.aload_n 2, 1) := by decide +kernel
theorem dL_setRate_1 : decode cL_setRate 1 = .ok (.iconst 0, 1) := by decide +kernel
theorem dL_setRate_2 : decode cL_setRate 2 = .ok (.aload_n 0, 1) := by decide +kernel
theorem dL_setRate_3 : decode cL_setRate 3 = .ok (.iload_n 1, 1) := by decide +kernel
theorem dL_setRate_4 : decode cL_setRate 4 = .ok (.invokevirtual 27, 3) := by decide +kernel
theorem dL_setRate_7 : decode cL_setRate 7 = .ok (.i2l, 1) := by decide +kernel
theorem dL_setRate_8 : decode cL_setRate 8 = .ok (.lastore, 1) := by decide +kernel
theorem dL_setRate_9 : decode cL_setRate 9 = .ok (.goto 6, 3) := by decide +kernel
theorem dL_setRate_12 : decode cL_setRate 12 = .ok (.astore_n 3, 1) := by decide +kernel
theorem dL_setRate_13 : decode cL_setRate 13 = .ok (.iconst 1, 1) := by decide +kernel
theorem dL_setRate_14 : decode cL_setRate 14 = .ok (.ireturn, 1) := by decide +kernel
theorem dL_setRate_15 : decode cL_setRate 15 = .ok (.iconst 0, 1) := by decide +kernel
theorem dL_setRate_16 : decode cL_setRate 16 = .ok (.ireturn, 1) := by decide +kernel
set_option maxRecDepth 20000 in
theorem ggL_ask_X5_ask : GoodIn wsL_ask wsX5_ask := goodIn_ca (goodIn_ca (goodIn_r _ [7, 8, 9, 10, 11, 12, 13, 14, 15, 16, 17, 18, 6, 19, 20, 21, 22, 23, 24, 25, 26, 27, 28, 29, 30, 31, 32, 33, 34, 35, 36, 37, 38, 39, 40, 41, 42, 43, 44, 45, 46, 47, 48, 49, 50, 51, 52, 53, 54, 55, 56, 57, 58, 59, 60, 61, 62, 63, 64, 65, 66, 67, 68, 69, 70, 71, 72, 73, 74, 75, 76, 77, 78, 79, 80, 81, 82, 83, 84, 85, 86, 87, 88, 89, 90, 91, 92, 93, 94, 95, 96, 97, 98, 99, 100, 101, 102, 103, 104, 105, 106, 107, 108, 109, 110, 111, 112, 113, 114, 115, 116, 117, 118, 119, 120, 121, 122, 123, 124, 125, 126, 127, 128, 129, 130, 131, 132, 133, 134, 135, 136, 137, 138, 139, 140, 141, 142, 143, 144, 145, 146, 147, 148, 149, 150, 151, 152, 153, 154, 155, 156, 157, 158, 159, 160, 161, 162, 163, 164, 165, 166, 167, 168, 169, 170, 171, 172, 173, 174, 175, 176, 177, 178, 179, 180, 181, 182, 183, 184, 185, 186, 187, 188, 189] (by decide +kernel) (by decide +kernel)) (goodIn_sub (fun _ h => List.mem_cons_of_mem _ (List.mem_append_left _ (List.mem_append_right _ h))) (by decide +kernel))) (goodIn_sub (fun _ h => List.mem_cons_of_mem _ (List.mem_append_right _ h)) (by decide +kernel))
set_option maxRecDepth 20000 in
theorem gL_ask_X5_ask : GoodIn wsL_ask (wsV RL 31 RX5 yX5_ask wsX5_ask) := goodIn_app (goodIn_of _ (by decide +kernel)) ggL_ask_X5_ask
theorem dL_ask_0 : decode cL_ask 0 = .ok (.aload_n 2, 1) := by decide +kernel
theorem dL_ask_1 : decode cL_ask 1 = .ok (.iconst 0, 1) := by decide +kernel
theorem dL_ask_2 : decode cL_ask 2 = .ok (.aload_n 0, 1) := by decide +kernel
theorem dL_ask_3 : decode cL_ask 3 = .ok (.iload_n 1, 1) := by decide +kernel
theorem dL_ask_4 : decode cL_ask 4 = .ok (.invokevirtual 31, 3) := by decide +kernel
theorem dL_ask_7 : decode cL_ask 7 = .ok (.i2l, 1) := by decide +kernel
theorem dL_ask_8 : decode cL_ask 8 = .ok (.lastore, 1) := by decide +kernel
theorem dL_ask_9 : decode cL_ask 9 = .ok (.goto 9, 3) := by decide +kernel
theorem dL_ask_12 : decode cL_ask 12 = .ok (.astore_n 3, 1) := by decide +kernel
theorem dL_ask_13 : decode cL_ask 13 = .ok (.iconst 1, 1) := by decide +kernel
theorem dL_ask_14 : decode cL_ask 14 = .ok (.ireturn, 1) := by decide +kernel
theorem dL_ask_15 : decode cL_ask 15 = .ok (.astore_n 3, 1) := by decide +kernel
theorem dL_ask_16 : decode cL_ask 16 = .ok (.iconst 2, 1) := by decide +kernel
theorem dL_ask_17 : decode cL_ask 17 = .ok (.ireturn, 1) := by decide +kernel
theorem dL_ask_18 : decode cL_ask 18 = .ok (.iconst 0, 1) := by decide +kernel
theorem dL_ask_19 : decode cL_ask 19 = .ok (.ireturn, 1) := by decide +kernel
set_option maxRecDepth 20000 in
theorem ggL_group_X5_group : GoodIn wsL_group wsX5_group := goodIn_ca (goodIn_ca (goodIn_ca (goodIn_r _ [8, 9, 10, 11, 12, 13, 14, 15, 16, 17, 18, 19, 20, 7, 21, 22, 23, 24, 25, 26, 27, 28, 29, 30, 31, 32, 33, 34, 35, 36, 37, 38, 39, 40, 41, 42, 43, 44, 45, 46, 47, 48, 49, 50, 51, 52, 53, 54, 55, 56, 57, 58, 59, 60, 61, 62, 63, 64, 65, 66, 67, 68, 69, 70, 71, 72, 73, 74, 75, 76, 77, 78, 79, 80, 81, 82, 83, 84, 85, 86, 87, 88, 89, 90, 91, 92, 93, 94, 95, 96, 97, 98, 99, 100, 101, 102, 103, 104, 105, 106, 107, 108, 109, 110, 111, 112, 113, 114, 115, 116, 117, 118, 119, 120, 121, 122, 123, 124, 125, 126, 127, 128, 129, 130, 131, 132, 133, 134, 135, 136, 137, 138, 139, 140, 141, 142, 143, 144, 145, 146, 147, 148, 149, 150, 151, 152, 153, 154, 155, 156, 157, 158, 159, 160, 161, 162, 163, 164, 165, 166] (by decide +kernel) (by decide +kernel)) (goodIn_sub (fun _ h => List.mem_cons_of_mem _ (List.mem_append_left _ (List.mem_append_left _ (List.mem_append_right _ h)))) (by decide +kernel))) (goodIn_sub (fun _ h => List.mem_cons_of_mem _ (List.mem_append_left _ (List.mem_append_right _ h))) (by decide +kernel))) (goodIn_sub (fun _ h => List.mem_cons_of_mem _ (List.mem_append_right _ h)) (by decide +kernel))
set_option maxRecDepth 20000 in
theorem gL_group_X5_group : GoodIn wsL_group (wsV RL 34 RX5 yX5_group wsX5_group) := goodIn_app (goodIn_of _ (by decide +kernel)) ggL_group_X5_group
theorem dL_group_0 : decode cL_group 0 = .ok (.aload 5, 2) := by decide +kernel
theorem dL_group_2 : decode cL_group 2 = .ok (.iconst 0, 1) := by decide +kernel
theorem dL_group_3 : decode cL_group 3 = .ok (.aload_n 0, 1) := by decide +kernel
theorem dL_group_4 : decode cL_group 4 = .ok (.iload_n 1, 1) := by decide +kernel
theorem dL_group_5 : decode cL_group 5 = .ok (.iload_n 2, 1) := by decide +kernel
theorem dL_group_6 : decode cL_group 6 = .ok (.iload_n 3, 1) := by decide +kernel
theorem dL_group_7 : decode cL_group 7 = .ok (.iload 4, 2) := by decide +kernel
theorem dL_group_9 : decode cL_group 9 = .ok (.invokevirtual 34, 3) := by decide +kernel
theorem dL_group_12 : decode cL_group 12 = .ok (.i2l, 1) := by decide +kernel
theorem dL_group_13 : decode cL_group 13 = .ok (.lastore, 1) := by decide +kernel
theorem dL_group_14 : decode cL_group 14 = .ok (.goto 15, 3) := by decide +kernel
theorem dL_group_17 : decode cL_group 17 = .ok (.astore 6, 2) := by decide +kernel
theorem dL_group_19 : decode cL_group 19 = .ok (.iconst 1, 1) := by decide +kernel
theorem dL_group_20 : decode cL_group 20 = .ok (.ireturn, 1) := by decide +kernel
theorem dL_group_21 : decode cL_group 21 = .ok (.astore 6, 2) := by decide +kernel
theorem dL_group_23 : decode cL_group 23 = .ok (.iconst 2, 1) := by decide +kernel
theorem dL_group_24 : decode cL_group 24 = .ok (.ireturn, 1) := by decide +kernel
theorem dL_group_25 : decode cL_group 25 = .ok (.astore 6, 2) := by decide +kernel
theorem dL_group_27 : decode cL_group 27 = .ok (.iconst 3, 1) := by decide +kernel
theorem dL_group_28 : decode cL_group 28 = .ok (.ireturn, 1) := by decide +kernel
theorem dL_group_29 : decode cL_group 29 = .ok (.iconst 0, 1) := by decide +kernel
theorem dL_group_30 : decode cL_group 30 = .ok (.ireturn, 1) := by decide +kernel
set_option maxRecDepth 20000 in
theorem ggL_cancel_X5_cancel : GoodIn wsL_cancel wsX5_cancel := goodIn_ca (goodIn_ca (goodIn_r _ [7, 8, 9, 10, 11, 12, 13, 14, 6, 15, 16, 17, 18, 19, 20, 21, 22, 23, 24, 25, 26, 27, 28, 29, 30, 31, 32, 33, 34, 35, 36] (by decide +kernel) (by decide +kernel)) (goodIn_sub (fun _ h => List.mem_cons_of_mem _ (List.mem_append_left _ (List.mem_append_right _ h))) (by decide +kernel))) (goodIn_sub (fun _ h => List.mem_cons_of_mem _ (List.mem_append_right _ h)) (by decide +kernel))
set_option maxRecDepth 20000 in
theorem gL_cancel_X5_cancel : GoodIn wsL_cancel (wsV RL 38 RX5 yX5_cancel wsX5_cancel) := goodIn_app (goodIn_of _ (by decide +kernel)) ggL_cancel_X5_cancel
theorem dL_cancel_0 : decode cL_cancel 0 = .ok (.aload_n 2, 1) := by decide +kernel
theorem dL_cancel_1 : decode cL_cancel 1 = .ok (.iconst 0, 1) := by decide +kernel
theorem dL_cancel_2 : decode cL_cancel 2 = .ok (.aload_n 0, 1) := by decide +kernel
theorem dL_cancel_3 : decode cL_cancel 3 = .ok (.iload_n 1, 1) := by decide +kernel
theorem dL_cancel_4 : decode cL_cancel 4 = .ok (.invokevirtual 38, 3) := by decide +kernel
theorem dL_cancel_7 : decode cL_cancel 7 = .ok (.i2l, 1) := by decide +kernel
theorem dL_cancel_8 : decode cL_cancel 8 = .ok (.lastore, 1) := by decide +kernel
theorem dL_cancel_9 : decode cL_cancel 9 = .ok (.goto 9, 3) := by decide +kernel
theorem dL_cancel_12 : decode cL_cancel 12 = .ok (.astore_n 3, 1) := by decide +kernel
theorem dL_cancel_13 : decode cL_cancel 13 = .ok (.iconst 1, 1) := by decide +kernel
theorem dL_cancel_14 : decode cL_cancel 14 = .ok (.ireturn, 1) := by decide +kernel
theorem dL_cancel_15 : decode cL_cancel 15 = .ok (.astore_n 3, 1) := by decide +kernel
theorem dL_cancel_16 : decode cL_cancel 16 = .ok (.iconst 2, 1) := by decide +kernel
theorem dL_cancel_17 : decode cL_cancel 17 = .ok (.ireturn, 1) := by decide +kernel
theorem dL_cancel_18 : decode cL_cancel 18 = .ok (.iconst 0, 1) := by decide +kernel
theorem dL_cancel_19 : decode cL_cancel 19 = .ok (.ireturn, 1) := by decide +kernel
set_option maxRecDepth 20000 in
theorem ggL_endDay_X5_endDay : GoodIn wsL_endDay wsX5_endDay := goodIn_ca (goodIn_r _ [6, 7, 8, 9, 10, 11, 12, 5, 13, 14, 15, 16, 17, 18, 19, 20, 21, 22, 23, 24, 25, 26, 27, 28, 29, 30, 31, 32, 33, 34, 35, 36, 37, 38, 39, 40, 41, 42, 43, 44, 45, 46, 47, 48, 49, 50, 51, 52, 53, 54, 55, 56, 57, 58, 59, 60, 61, 62, 63, 64, 65, 66, 67, 68, 69, 70, 71, 72, 73, 74, 75, 76, 77, 78, 79, 80, 81, 82, 83, 84, 85, 86, 87, 88, 89, 90] (by decide +kernel) (by decide +kernel)) (goodIn_sub (fun _ h => List.mem_cons_of_mem _ (List.mem_append_right _ h)) (by decide +kernel))
set_option maxRecDepth 20000 in
theorem gL_endDay_X5_endDay : GoodIn wsL_endDay (wsV RL 41 RX5 yX5_endDay wsX5_endDay) := goodIn_app (goodIn_of _ (by decide +kernel)) ggL_endDay_X5_endDay
theorem dL_endDay_0 : decode cL_endDay 0 = .ok (.aload_n 2, 1) := by decide +kernel
theorem dL_endDay_1 : decode cL_endDay 1 = .ok (.iconst 0, 1) := by decide +kernel
theorem dL_endDay_2 : decode cL_endDay 2 = .ok (.aload_n 0, 1) := by decide +kernel
theorem dL_endDay_3 : decode cL_endDay 3 = .ok (.iload_n 1, 1) := by decide +kernel
theorem dL_endDay_4 : decode cL_endDay 4 = .ok (.invokevirtual 41, 3) := by decide +kernel
theorem dL_endDay_7 : decode cL_endDay 7 = .ok (.i2l, 1) := by decide +kernel
theorem dL_endDay_8 : decode cL_endDay 8 = .ok (.lastore, 1) := by decide +kernel
theorem dL_endDay_9 : decode cL_endDay 9 = .ok (.goto 6, 3) := by decide +kernel
theorem dL_endDay_12 : decode cL_endDay 12 = .ok (.astore_n 3, 1) := by decide +kernel
theorem dL_endDay_13 : decode cL_endDay 13 = .ok (.iconst 1, 1) := by decide +kernel
theorem dL_endDay_14 : decode cL_endDay 14 = .ok (.ireturn, 1) := by decide +kernel
theorem dL_endDay_15 : decode cL_endDay 15 = .ok (.iconst 0, 1) := by decide +kernel
theorem dL_endDay_16 : decode cL_endDay 16 = .ok (.ireturn, 1) := by decide +kernel
set_option maxRecDepth 20000 in
theorem ggL_booked_X5_booked : GoodIn wsL_booked wsX5_booked := goodIn_ca (goodIn_r _ [6, 7, 8, 9, 10, 5, 11, 12, 13, 14, 15, 16, 17, 18, 19, 20, 21, 22, 23, 24, 25, 26, 27, 28, 29, 30, 31, 32, 33, 34, 35, 36, 37, 38, 39, 40, 41, 42, 43, 44, 45, 46, 47, 48, 49, 50, 51] (by decide +kernel) (by decide +kernel)) (goodIn_sub (fun _ h => List.mem_cons_of_mem _ (List.mem_append_right _ h)) (by decide +kernel))
set_option maxRecDepth 20000 in
theorem gL_booked_X5_booked : GoodIn wsL_booked (wsV RL 44 RX5 yX5_booked wsX5_booked) := goodIn_app (goodIn_of _ (by decide +kernel)) ggL_booked_X5_booked
theorem dL_booked_0 : decode cL_booked 0 = .ok (.aload_n 2, 1) := by decide +kernel
theorem dL_booked_1 : decode cL_booked 1 = .ok (.iconst 0, 1) := by decide +kernel
theorem dL_booked_2 : decode cL_booked 2 = .ok (.aload_n 0, 1) := by decide +kernel
theorem dL_booked_3 : decode cL_booked 3 = .ok (.iload_n 1, 1) := by decide +kernel
theorem dL_booked_4 : decode cL_booked 4 = .ok (.invokevirtual 44, 3) := by decide +kernel
theorem dL_booked_7 : decode cL_booked 7 = .ok (.i2l, 1) := by decide +kernel
theorem dL_booked_8 : decode cL_booked 8 = .ok (.lastore, 1) := by decide +kernel
theorem dL_booked_9 : decode cL_booked 9 = .ok (.goto 6, 3) := by decide +kernel
theorem dL_booked_12 : decode cL_booked 12 = .ok (.astore_n 3, 1) := by decide +kernel
theorem dL_booked_13 : decode cL_booked 13 = .ok (.iconst 1, 1) := by decide +kernel
theorem dL_booked_14 : decode cL_booked 14 = .ok (.ireturn, 1) := by decide +kernel
theorem dL_booked_15 : decode cL_booked 15 = .ok (.iconst 0, 1) := by decide +kernel
theorem dL_booked_16 : decode cL_booked 16 = .ok (.ireturn, 1) := by decide +kernel
set_option maxRecDepth 20000 in
theorem ggL_authorised_X5_authorised : GoodIn wsL_authorised wsX5_authorised := goodIn_ca (goodIn_r _ [6, 7, 8, 9, 10, 5, 11, 12, 13, 14, 15, 16, 17, 18, 19, 20, 21, 22, 23, 24, 25, 26, 27, 28, 29, 30, 31, 32, 33, 34, 35, 36, 37, 38] (by decide +kernel) (by decide +kernel)) (goodIn_sub (fun _ h => List.mem_cons_of_mem _ (List.mem_append_right _ h)) (by decide +kernel))
set_option maxRecDepth 20000 in
theorem gL_authorised_X5_authorised : GoodIn wsL_authorised (wsV RL 47 RX5 yX5_authorised wsX5_authorised) := goodIn_app (goodIn_of _ (by decide +kernel)) ggL_authorised_X5_authorised
theorem dL_authorised_0 : decode cL_authorised 0 = .ok (.aload_n 2, 1) := by decide +kernel
theorem dL_authorised_1 : decode cL_authorised 1 = .ok (.iconst 0, 1) := by decide +kernel
theorem dL_authorised_2 : decode cL_authorised 2 = .ok (.aload_n 0, 1) := by decide +kernel
theorem dL_authorised_3 : decode cL_authorised 3 = .ok (.iload_n 1, 1) := by decide +kernel
theorem dL_authorised_4 : decode cL_authorised 4 = .ok (.invokevirtual 47, 3) := by decide +kernel
theorem dL_authorised_7 : decode cL_authorised 7 = .ok (.i2l, 1) := by decide +kernel
theorem dL_authorised_8 : decode cL_authorised 8 = .ok (.lastore, 1) := by decide +kernel
theorem dL_authorised_9 : decode cL_authorised 9 = .ok (.goto 6, 3) := by decide +kernel
theorem dL_authorised_12 : decode cL_authorised 12 = .ok (.astore_n 3, 1) := by decide +kernel
theorem dL_authorised_13 : decode cL_authorised 13 = .ok (.iconst 1, 1) := by decide +kernel
theorem dL_authorised_14 : decode cL_authorised 14 = .ok (.ireturn, 1) := by decide +kernel
theorem dL_authorised_15 : decode cL_authorised 15 = .ok (.iconst 0, 1) := by decide +kernel
theorem dL_authorised_16 : decode cL_authorised 16 = .ok (.ireturn, 1) := by decide +kernel
set_option maxRecDepth 20000 in
theorem ggL_protectedSeats_X5_protectedSeats : GoodIn wsL_protectedSeats wsX5_protectedSeats := goodIn_ca (goodIn_ca (goodIn_r _ [7, 8, 9, 10, 11, 12, 13, 6, 14, 15, 16, 17, 18, 19, 20, 21, 22, 23, 24, 25, 26, 27, 28, 29, 30, 31, 32, 33, 34, 35, 36, 37, 38, 39, 40, 41, 42, 43, 44, 45, 46, 47, 48, 49, 50, 51, 52, 53, 54, 55] (by decide +kernel) (by decide +kernel)) (goodIn_sub (fun _ h => List.mem_cons_of_mem _ (List.mem_append_left _ (List.mem_append_right _ h))) (by decide +kernel))) (goodIn_sub (fun _ h => List.mem_cons_of_mem _ (List.mem_append_right _ h)) (by decide +kernel))
set_option maxRecDepth 20000 in
theorem gL_protectedSeats_X5_protectedSeats : GoodIn wsL_protectedSeats (wsV RL 50 RX5 yX5_protectedSeats wsX5_protectedSeats) := goodIn_app (goodIn_of _ (by decide +kernel)) ggL_protectedSeats_X5_protectedSeats
theorem dL_protectedSeats_0 : decode cL_protectedSeats 0 = .ok (.aload_n 3, 1) := by decide +kernel
theorem dL_protectedSeats_1 : decode cL_protectedSeats 1 = .ok (.iconst 0, 1) := by decide +kernel
theorem dL_protectedSeats_2 : decode cL_protectedSeats 2 = .ok (.aload_n 0, 1) := by decide +kernel
theorem dL_protectedSeats_3 : decode cL_protectedSeats 3 = .ok (.iload_n 1, 1) := by decide +kernel
theorem dL_protectedSeats_4 : decode cL_protectedSeats 4 = .ok (.iload_n 2, 1) := by decide +kernel
theorem dL_protectedSeats_5 : decode cL_protectedSeats 5 = .ok (.invokevirtual 50, 3) := by decide +kernel
theorem dL_protectedSeats_8 : decode cL_protectedSeats 8 = .ok (.i2l, 1) := by decide +kernel
theorem dL_protectedSeats_9 : decode cL_protectedSeats 9 = .ok (.lastore, 1) := by decide +kernel
theorem dL_protectedSeats_10 : decode cL_protectedSeats 10 = .ok (.goto 11, 3) := by decide +kernel
theorem dL_protectedSeats_13 : decode cL_protectedSeats 13 = .ok (.astore 4, 2) := by decide +kernel
theorem dL_protectedSeats_15 : decode cL_protectedSeats 15 = .ok (.iconst 1, 1) := by decide +kernel
theorem dL_protectedSeats_16 : decode cL_protectedSeats 16 = .ok (.ireturn, 1) := by decide +kernel
theorem dL_protectedSeats_17 : decode cL_protectedSeats 17 = .ok (.astore 4, 2) := by decide +kernel
theorem dL_protectedSeats_19 : decode cL_protectedSeats 19 = .ok (.iconst 2, 1) := by decide +kernel
theorem dL_protectedSeats_20 : decode cL_protectedSeats 20 = .ok (.ireturn, 1) := by decide +kernel
theorem dL_protectedSeats_21 : decode cL_protectedSeats 21 = .ok (.iconst 0, 1) := by decide +kernel
theorem dL_protectedSeats_22 : decode cL_protectedSeats 22 = .ok (.ireturn, 1) := by decide +kernel
set_option maxRecDepth 20000 in
theorem ggL_bid_X5_bid : GoodIn wsL_bid wsX5_bid := goodIn_ca (goodIn_r _ [6, 7, 8, 9, 10, 5, 11, 12, 13, 14, 15, 16, 17, 18, 19, 20, 21, 22, 23, 24, 25, 26, 27, 28, 29, 30, 31, 32, 33, 34, 35, 36, 37, 38, 39, 40, 41, 42, 43, 44, 45, 46, 47, 48, 49, 50, 51, 52, 53, 54, 55, 56, 57, 58, 59, 60, 61, 62, 63, 64, 65, 66, 67, 68, 69, 70, 71, 72, 73, 74, 75, 76, 77, 78, 79, 80, 81, 82, 83, 84, 85, 86, 87, 88, 89, 90, 91, 92, 93, 94, 95, 96, 97, 98, 99, 100, 101, 102, 103, 104, 105, 106, 107, 108, 109, 110, 111, 112, 113, 114, 115, 116, 117, 118, 119, 120, 121, 122, 123, 124, 125, 126, 127, 128, 129, 130, 131, 132, 133, 134, 135, 136, 137] (by decide +kernel) (by decide +kernel)) (goodIn_sub (fun _ h => List.mem_cons_of_mem _ (List.mem_append_right _ h)) (by decide +kernel))
set_option maxRecDepth 20000 in
theorem gL_bid_X5_bid : GoodIn wsL_bid (wsV RL 53 RX5 yX5_bid wsX5_bid) := goodIn_app (goodIn_of _ (by decide +kernel)) ggL_bid_X5_bid
theorem dL_bid_0 : decode cL_bid 0 = .ok (.aload_n 2, 1) := by decide +kernel
theorem dL_bid_1 : decode cL_bid 1 = .ok (.iconst 0, 1) := by decide +kernel
theorem dL_bid_2 : decode cL_bid 2 = .ok (.aload_n 0, 1) := by decide +kernel
theorem dL_bid_3 : decode cL_bid 3 = .ok (.iload_n 1, 1) := by decide +kernel
theorem dL_bid_4 : decode cL_bid 4 = .ok (.invokevirtual 53, 3) := by decide +kernel
theorem dL_bid_7 : decode cL_bid 7 = .ok (.i2l, 1) := by decide +kernel
theorem dL_bid_8 : decode cL_bid 8 = .ok (.lastore, 1) := by decide +kernel
theorem dL_bid_9 : decode cL_bid 9 = .ok (.goto 6, 3) := by decide +kernel
theorem dL_bid_12 : decode cL_bid 12 = .ok (.astore_n 3, 1) := by decide +kernel
theorem dL_bid_13 : decode cL_bid 13 = .ok (.iconst 1, 1) := by decide +kernel
theorem dL_bid_14 : decode cL_bid 14 = .ok (.ireturn, 1) := by decide +kernel
theorem dL_bid_15 : decode cL_bid 15 = .ok (.iconst 0, 1) := by decide +kernel
theorem dL_bid_16 : decode cL_bid 16 = .ok (.ireturn, 1) := by decide +kernel
set_option maxRecDepth 20000 in
theorem ggL_displaced_X5_displaced : GoodIn wsL_displaced wsX5_displaced := goodIn_ca (goodIn_ca (goodIn_r _ [7, 8, 9, 10, 11, 12, 13, 6, 14, 15, 16, 17, 18, 19, 20, 21, 22, 23, 24, 25, 26, 27, 28, 29, 30, 31, 32, 33, 34, 35, 36, 37, 38, 39, 40, 41, 42, 43, 44, 45, 46, 47, 48, 49, 50, 51, 52, 53, 54, 55, 56, 57, 58, 59, 60, 61, 62, 63, 64, 65, 66, 67, 68, 69, 70, 71, 72, 73, 74, 75, 76, 77, 78, 79, 80, 81, 82, 83, 84, 85, 86, 87, 88, 89, 90, 91, 92, 93, 94, 95, 96, 97, 98, 99, 100, 101, 102, 103, 104, 105, 106, 107, 108, 109, 110, 111, 112, 113, 114, 115, 116, 117, 118, 119, 120, 121, 122, 123, 124, 125, 126, 127, 128, 129, 130, 131, 132, 133, 134, 135, 136, 137, 138, 139, 140, 141, 142, 143, 144] (by decide +kernel) (by decide +kernel)) (goodIn_sub (fun _ h => List.mem_cons_of_mem _ (List.mem_append_left _ (List.mem_append_right _ h))) (by decide +kernel))) (goodIn_sub (fun _ h => List.mem_cons_of_mem _ (List.mem_append_right _ h)) (by decide +kernel))
set_option maxRecDepth 20000 in
theorem gL_displaced_X5_displaced : GoodIn wsL_displaced (wsV RL 56 RX5 yX5_displaced wsX5_displaced) := goodIn_app (goodIn_of _ (by decide +kernel)) ggL_displaced_X5_displaced
theorem dL_displaced_0 : decode cL_displaced 0 = .ok (.aload 4, 2) := by decide +kernel
theorem dL_displaced_2 : decode cL_displaced 2 = .ok (.iconst 0, 1) := by decide +kernel
theorem dL_displaced_3 : decode cL_displaced 3 = .ok (.aload_n 0, 1) := by decide +kernel
theorem dL_displaced_4 : decode cL_displaced 4 = .ok (.iload_n 1, 1) := by decide +kernel
theorem dL_displaced_5 : decode cL_displaced 5 = .ok (.iload_n 2, 1) := by decide +kernel
theorem dL_displaced_6 : decode cL_displaced 6 = .ok (.iload_n 3, 1) := by decide +kernel
theorem dL_displaced_7 : decode cL_displaced 7 = .ok (.invokevirtual 56, 3) := by decide +kernel
theorem dL_displaced_10 : decode cL_displaced 10 = .ok (.i2l, 1) := by decide +kernel
theorem dL_displaced_11 : decode cL_displaced 11 = .ok (.lastore, 1) := by decide +kernel
theorem dL_displaced_12 : decode cL_displaced 12 = .ok (.goto 11, 3) := by decide +kernel
theorem dL_displaced_15 : decode cL_displaced 15 = .ok (.astore 5, 2) := by decide +kernel
theorem dL_displaced_17 : decode cL_displaced 17 = .ok (.iconst 1, 1) := by decide +kernel
theorem dL_displaced_18 : decode cL_displaced 18 = .ok (.ireturn, 1) := by decide +kernel
theorem dL_displaced_19 : decode cL_displaced 19 = .ok (.astore 5, 2) := by decide +kernel
theorem dL_displaced_21 : decode cL_displaced 21 = .ok (.iconst 2, 1) := by decide +kernel
theorem dL_displaced_22 : decode cL_displaced 22 = .ok (.ireturn, 1) := by decide +kernel
theorem dL_displaced_23 : decode cL_displaced 23 = .ok (.iconst 0, 1) := by decide +kernel
