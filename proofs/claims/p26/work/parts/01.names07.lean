theorem dX5_ask_71 : decode cX5_ask 71 = .ok (.aload_n 0, 1) := by decide +kernel
theorem dX5_ask_72 : decode cX5_ask 72 = .ok (.bipush (-2), 2) := by decide +kernel
theorem dX5_ask_74 : decode cX5_ask 74 = .ok (.invokevirtual 131, 3) := by decide +kernel
theorem dX5_ask_77 : decode cX5_ask 77 = .ok (.ireturn, 1) := by decide +kernel
theorem dX5_ask_78 : decode cX5_ask 78 = .ok (.aload_n 2, 1) := by decide +kernel
theorem dX5_ask_79 : decode cX5_ask 79 = .ok (.getfield 138, 3) := by decide +kernel
theorem dX5_ask_82 : decode cX5_ask 82 = .ok (.aload_n 0, 1) := by decide +kernel
theorem dX5_ask_83 : decode cX5_ask 83 = .ok (.aload_n 2, 1) := by decide +kernel
theorem dX5_ask_84 : decode cX5_ask 84 = .ok (.getfield 141, 3) := by decide +kernel
theorem dX5_ask_87 : decode cX5_ask 87 = .ok (.aload_n 2, 1) := by decide +kernel
theorem dX5_ask_88 : decode cX5_ask 88 = .ok (.getfield 144, 3) := by decide +kernel
theorem dX5_ask_91 : decode cX5_ask 91 = .ok (.invokevirtual 147, 3) := by decide +kernel
theorem dX5_ask_94 : decode cX5_ask 94 = .ok (.if_icmp .ge 10, 3) := by decide +kernel
theorem dX5_ask_97 : decode cX5_ask 97 = .ok (.aload_n 0, 1) := by decide +kernel
theorem dX5_ask_98 : decode cX5_ask 98 = .ok (.bipush (-3), 2) := by decide +kernel
theorem dX5_ask_100 : decode cX5_ask 100 = .ok (.invokevirtual 131, 3) := by decide +kernel
theorem dX5_ask_103 : decode cX5_ask 103 = .ok (.ireturn, 1) := by decide +kernel
theorem dX5_ask_104 : decode cX5_ask 104 = .ok (.aload_n 0, 1) := by decide +kernel
theorem dX5_ask_105 : decode cX5_ask 105 = .ok (.new 22, 3) := by decide +kernel
theorem dX5_ask_108 : decode cX5_ask 108 = .ok (.dup, 1) := by decide +kernel
theorem dX5_ask_109 : decode cX5_ask 109 = .ok (.aload_n 2, 1) := by decide +kernel
theorem dX5_ask_110 : decode cX5_ask 110 = .ok (.getfield 141, 3) := by decide +kernel
theorem dX5_ask_113 : decode cX5_ask 113 = .ok (.aload_n 2, 1) := by decide +kernel
theorem dX5_ask_114 : decode cX5_ask 114 = .ok (.getfield 144, 3) := by decide +kernel
theorem dX5_ask_117 : decode cX5_ask 117 = .ok (.iconst 1, 1) := by decide +kernel
theorem dX5_ask_118 : decode cX5_ask 118 = .ok (.aload_n 2, 1) := by decide +kernel
theorem dX5_ask_119 : decode cX5_ask 119 = .ok (.getfield 138, 3) := by decide +kernel
theorem dX5_ask_122 : decode cX5_ask 122 = .ok (.invokespecial 151, 3) := by decide +kernel
theorem dX5_ask_125 : decode cX5_ask 125 = .ok (.invokevirtual 152, 3) := by decide +kernel
theorem dX5_ask_128 : decode cX5_ask 128 = .ok (.ireturn, 1) := by decide +kernel
set_option maxRecDepth 20000 in
theorem ggX5_group_X5_isLeg : GoodIn wsX5_group wsX5_isLeg := goodIn_r _ [14, 15, 16, 13, 17] (by decide +kernel) (by decide +kernel)
set_option maxRecDepth 20000 in
theorem gX5_group_X5_isLeg : GoodIn wsX5_group (va_wsS RX5 83 yX5_isLeg wsX5_isLeg) := goodIn_app (goodIn_of _ (by decide +kernel)) ggX5_group_X5_isLeg
set_option maxRecDepth 20000 in
theorem ggX5_group_X5_within : GoodIn wsX5_group wsX5_within := goodIn_r _ [17] (by decide +kernel) (by decide +kernel)
set_option maxRecDepth 20000 in
theorem gX5_group_X5_within : GoodIn wsX5_group (va_wsS RX5 68 yX5_within wsX5_within) := goodIn_app (goodIn_of _ (by decide +kernel)) ggX5_group_X5_within
set_option maxRecDepth 20000 in
theorem ggX5_group_X5_hasLeft : GoodIn wsX5_group wsX5_hasLeft := goodIn_r _ [21, 22, 23, 24, 13, 25, 26, 27, 28, 29, 30, 31, 32, 33, 34, 35, 36, 37, 38, 7, 39, 40, 41, 42, 43, 44, 10, 45, 46, 47, 48, 49, 50, 126, 127, 128, 129, 130, 131, 132, 133, 134, 135, 136, 137, 138, 139, 140, 141, 142, 143, 144] (by decide +kernel) (by decide +kernel)
set_option maxRecDepth 20000 in
theorem gX5_group_X5_hasLeft : GoodIn wsX5_group (wsV RX5 158 RX5 yX5_hasLeft wsX5_hasLeft) := goodIn_app (goodIn_of _ (by decide +kernel)) ggX5_group_X5_hasLeft
set_option maxRecDepth 20000 in
theorem ggX5_group_X5_refuse : GoodIn wsX5_group wsX5_refuse := goodIn_r _ [54, 55, 56, 57, 126, 127, 128, 129, 130, 131, 132, 133, 134, 135, 136, 137, 138, 139] (by decide +kernel) (by decide +kernel)
set_option maxRecDepth 20000 in
theorem gX5_group_X5_refuse : GoodIn wsX5_group (wsV RX5 131 RX5 yX5_refuse wsX5_refuse) := goodIn_app (goodIn_of _ (by decide +kernel)) ggX5_group_X5_refuse
set_option maxRecDepth 20000 in
theorem ggX5_group_X5_displacement : GoodIn wsX5_group wsX5_displacement := goodIn_r _ [61, 62, 63, 64, 13, 65, 66, 67, 68, 69, 70, 71, 72, 73, 74, 75, 76, 77, 78, 79, 80, 81, 82, 83, 84, 85, 86, 87, 88, 89, 90, 91, 27, 28, 29, 92, 93, 94, 95, 96, 97, 22, 23, 24, 25, 26, 30, 31, 32, 33, 34, 35, 36, 37, 38, 7, 39, 40, 41, 42, 43, 44, 10, 45, 46, 47, 48, 49, 50, 15, 16, 17, 98, 99, 100, 101, 102, 103, 104, 105, 106, 107, 108, 109, 110, 111, 112, 113, 114, 115, 126, 127, 128, 129, 130, 131, 132, 133, 134, 135, 136, 137, 138, 139, 145, 146, 147, 148, 149, 150, 151, 152, 153, 154, 155, 156, 157, 158, 159, 140, 141, 142, 143, 144] (by decide +kernel) (by decide +kernel)
set_option maxRecDepth 20000 in
theorem gX5_group_X5_displacement : GoodIn wsX5_group (wsV RX5 161 RX5 yX5_displacement wsX5_displacement) := goodIn_app (goodIn_of _ (by decide +kernel)) ggX5_group_X5_displacement
set_option maxRecDepth 20000 in
theorem ggX5_group_X0_init : GoodIn wsX5_group wsX0_init := goodIn_r _ [117, 118, 119, 120, 47, 48, 49, 50, 121, 140, 141, 142, 143, 144] (by decide +kernel) (by decide +kernel)
set_option maxRecDepth 20000 in
theorem gX5_group_X0_init_n151 : GoodIn wsX5_group (wsX0_init) := ggX5_group_X0_init
set_option maxRecDepth 20000 in
theorem ggX5_group_X5_enter : GoodIn wsX5_group wsX5_enter := goodIn_r _ [125, 7, 43, 126, 127, 128, 129, 130, 131, 132, 133, 134, 135, 136, 137, 138, 139] (by decide +kernel) (by decide +kernel)
set_option maxRecDepth 20000 in
theorem gX5_group_X5_enter : GoodIn wsX5_group (wsV RX5 152 RX5 yX5_enter wsX5_enter) := goodIn_app (goodIn_of _ (by decide +kernel)) ggX5_group_X5_enter
theorem dX5_group_0 : decode cX5_group 0 = .ok (.iload_n 1, 1) := by decide +kernel
theorem dX5_group_1 : decode cX5_group 1 = .ok (.invokestatic 83, 3) := by decide +kernel
theorem dX5_group_4 : decode cX5_group 4 = .ok (.ifCond .eq 10, 3) := by decide +kernel
theorem dX5_group_7 : decode cX5_group 7 = .ok (.iload_n 2, 1) := by decide +kernel
theorem dX5_group_8 : decode cX5_group 8 = .ok (.invokestatic 83, 3) := by decide +kernel
theorem dX5_group_11 : decode cX5_group 11 = .ok (.ifCond .ne 13, 3) := by decide +kernel
theorem dX5_group_14 : decode cX5_group 14 = .ok (.new 87, 3) := by decide +kernel
theorem dX5_group_17 : decode cX5_group 17 = .ok (.dup, 1) := by decide +kernel
theorem dX5_group_18 : decode cX5_group 18 = .ok (.ldc 89, 2) := by decide +kernel
theorem dX5_group_20 : decode cX5_group 20 = .ok (.invokespecial 91, 3) := by decide +kernel
theorem dX5_group_23 : decode cX5_group 23 = .ok (.athrow, 1) := by decide +kernel
theorem dX5_group_24 : decode cX5_group 24 = .ok (.iload_n 2, 1) := by decide +kernel
theorem dX5_group_25 : decode cX5_group 25 = .ok (.iload_n 1, 1) := by decide +kernel
theorem dX5_group_26 : decode cX5_group 26 = .ok (.if_icmp .lt 25, 3) := by decide +kernel
theorem dX5_group_29 : decode cX5_group 29 = .ok (.iload_n 3, 1) := by decide +kernel
theorem dX5_group_30 : decode cX5_group 30 = .ok (.iconst 1, 1) := by decide +kernel
theorem dX5_group_31 : decode cX5_group 31 = .ok (.bipush 10, 2) := by decide +kernel
theorem dX5_group_33 : decode cX5_group 33 = .ok (.invokestatic 68, 3) := by decide +kernel
theorem dX5_group_36 : decode cX5_group 36 = .ok (.ifCond .eq 15, 3) := by decide +kernel
theorem dX5_group_39 : decode cX5_group 39 = .ok (.iload 4, 2) := by decide +kernel
theorem dX5_group_41 : decode cX5_group 41 = .ok (.iconst 1, 1) := by decide +kernel
theorem dX5_group_42 : decode cX5_group 42 = .ok (.sipush 3000, 3) := by decide +kernel
theorem dX5_group_45 : decode cX5_group 45 = .ok (.invokestatic 68, 3) := by decide +kernel
theorem dX5_group_48 : decode cX5_group 48 = .ok (.ifCond .ne 13, 3) := by decide +kernel
theorem dX5_group_51 : decode cX5_group 51 = .ok (.new 72, 3) := by decide +kernel
theorem dX5_group_54 : decode cX5_group 54 = .ok (.dup, 1) := by decide +kernel
theorem dX5_group_55 : decode cX5_group 55 = .ok (.ldc 156, 2) := by decide +kernel
theorem dX5_group_57 : decode cX5_group 57 = .ok (.invokespecial 76, 3) := by decide +kernel
theorem dX5_group_60 : decode cX5_group 60 = .ok (.athrow, 1) := by decide +kernel
theorem dX5_group_61 : decode cX5_group 61 = .ok (.aload_n 0, 1) := by decide +kernel
theorem dX5_group_62 : decode cX5_group 62 = .ok (.getfield 46, 3) := by decide +kernel
theorem dX5_group_65 : decode cX5_group 65 = .ok (.bipush 60, 2) := by decide +kernel
theorem dX5_group_67 : decode cX5_group 67 = .ok (.if_icmp .lt 13, 3) := by decide +kernel
theorem dX5_group_70 : decode cX5_group 70 = .ok (.new 97, 3) := by decide +kernel
theorem dX5_group_73 : decode cX5_group 73 = .ok (.dup, 1) := by decide +kernel
theorem dX5_group_74 : decode cX5_group 74 = .ok (.ldc 122, 2) := by decide +kernel
theorem dX5_group_76 : decode cX5_group 76 = .ok (.invokespecial 101, 3) := by decide +kernel
theorem dX5_group_79 : decode cX5_group 79 = .ok (.athrow, 1) := by decide +kernel
theorem dX5_group_80 : decode cX5_group 80 = .ok (.aload_n 0, 1) := by decide +kernel
theorem dX5_group_81 : decode cX5_group 81 = .ok (.iload_n 1, 1) := by decide +kernel
theorem dX5_group_82 : decode cX5_group 82 = .ok (.iload_n 2, 1) := by decide +kernel
theorem dX5_group_83 : decode cX5_group 83 = .ok (.iload_n 3, 1) := by decide +kernel
theorem dX5_group_84 : decode cX5_group 84 = .ok (.invokevirtual 158, 3) := by decide +kernel
theorem dX5_group_87 : decode cX5_group 87 = .ok (.ifCond .ne 9, 3) := by decide +kernel
theorem dX5_group_90 : decode cX5_group 90 = .ok (.aload_n 0, 1) := by decide +kernel
theorem dX5_group_91 : decode cX5_group 91 = .ok (.iconst (-1), 1) := by decide +kernel
theorem dX5_group_92 : decode cX5_group 92 = .ok (.invokevirtual 131, 3) := by decide +kernel
theorem dX5_group_95 : decode cX5_group 95 = .ok (.ireturn, 1) := by decide +kernel
theorem dX5_group_96 : decode cX5_group 96 = .ok (.iload 4, 2) := by decide +kernel
theorem dX5_group_98 : decode cX5_group 98 = .ok (.iload_n 3, 1) := by decide +kernel
theorem dX5_group_99 : decode cX5_group 99 = .ok (.imul, 1) := by decide +kernel
theorem dX5_group_100 : decode cX5_group 100 = .ok (.istore 5, 2) := by decide +kernel
theorem dX5_group_102 : decode cX5_group 102 = .ok (.iload 5, 2) := by decide +kernel
theorem dX5_group_104 : decode cX5_group 104 = .ok (.aload_n 0, 1) := by decide +kernel
theorem dX5_group_105 : decode cX5_group 105 = .ok (.iload_n 1, 1) := by decide +kernel
theorem dX5_group_106 : decode cX5_group 106 = .ok (.iload_n 2, 1) := by decide +kernel
theorem dX5_group_107 : decode cX5_group 107 = .ok (.iload_n 3, 1) := by decide +kernel
theorem dX5_group_108 : decode cX5_group 108 = .ok (.invokevirtual 161, 3) := by decide +kernel
theorem dX5_group_111 : decode cX5_group 111 = .ok (.if_icmp .ge 10, 3) := by decide +kernel
theorem dX5_group_114 : decode cX5_group 114 = .ok (.aload_n 0, 1) := by decide +kernel
theorem dX5_group_115 : decode cX5_group 115 = .ok (.bipush (-3), 2) := by decide +kernel
theorem dX5_group_117 : decode cX5_group 117 = .ok (.invokevirtual 131, 3) := by decide +kernel
theorem dX5_group_120 : decode cX5_group 120 = .ok (.ireturn, 1) := by decide +kernel
theorem dX5_group_121 : decode cX5_group 121 = .ok (.aload_n 0, 1) := by decide +kernel
theorem dX5_group_122 : decode cX5_group 122 = .ok (.new 22, 3) := by decide +kernel
theorem dX5_group_125 : decode cX5_group 125 = .ok (.dup, 1) := by decide +kernel
theorem dX5_group_126 : decode cX5_group 126 = .ok (.iload_n 1, 1) := by decide +kernel
theorem dX5_group_127 : decode cX5_group 127 = .ok (.iload_n 2, 1) := by decide +kernel
theorem dX5_group_128 : decode cX5_group 128 = .ok (.iload_n 3, 1) := by decide +kernel
theorem dX5_group_129 : decode cX5_group 129 = .ok (.iload 5, 2) := by decide +kernel
theorem dX5_group_131 : decode cX5_group 131 = .ok (.invokespecial 151, 3) := by decide +kernel
theorem dX5_group_134 : decode cX5_group 134 = .ok (.invokevirtual 152, 3) := by decide +kernel
theorem dX5_group_137 : decode cX5_group 137 = .ok (.ireturn, 1) := by decide +kernel
set_option maxRecDepth 20000 in
theorem ggX5_cancel_X5_bookingAt : GoodIn wsX5_cancel wsX5_bookingAt := goodIn_r _ [9, 10, 11, 17, 18, 19, 20, 21, 22, 23, 24, 25, 26, 27, 28, 29, 30] (by decide +kernel) (by decide +kernel)
set_option maxRecDepth 20000 in
theorem gX5_cancel_X5_bookingAt : GoodIn wsX5_cancel (wsV RX5 165 RX5 yX5_bookingAt wsX5_bookingAt) := goodIn_app (goodIn_of _ (by decide +kernel)) ggX5_cancel_X5_bookingAt
theorem dX5_cancel_0 : decode cX5_cancel 0 = .ok (.aload_n 0, 1) := by decide +kernel
theorem dX5_cancel_1 : decode cX5_cancel 1 = .ok (.iload_n 1, 1) := by decide +kernel
theorem dX5_cancel_2 : decode cX5_cancel 2 = .ok (.invokevirtual 165, 3) := by decide +kernel
theorem dX5_cancel_5 : decode cX5_cancel 5 = .ok (.astore_n 2, 1) := by decide +kernel
theorem dX5_cancel_6 : decode cX5_cancel 6 = .ok (.aload_n 2, 1) := by decide +kernel
theorem dX5_cancel_7 : decode cX5_cancel 7 = .ok (.ifnonnull 13, 3) := by decide +kernel
theorem dX5_cancel_10 : decode cX5_cancel 10 = .ok (.new 87, 3) := by decide +kernel
theorem dX5_cancel_13 : decode cX5_cancel 13 = .ok (.dup, 1) := by decide +kernel
theorem dX5_cancel_14 : decode cX5_cancel 14 = .ok (.ldc 169, 2) := by decide +kernel
theorem dX5_cancel_16 : decode cX5_cancel 16 = .ok (.invokespecial 91, 3) := by decide +kernel
theorem dX5_cancel_19 : decode cX5_cancel 19 = .ok (.athrow, 1) := by decide +kernel
theorem dX5_cancel_20 : decode cX5_cancel 20 = .ok (.aload_n 2, 1) := by decide +kernel
theorem dX5_cancel_21 : decode cX5_cancel 21 = .ok (.getfield 171, 3) := by decide +kernel
theorem dX5_cancel_24 : decode cX5_cancel 24 = .ok (.ifCond .eq 13, 3) := by decide +kernel
theorem dX5_cancel_27 : decode cX5_cancel 27 = .ok (.new 97, 3) := by decide +kernel
theorem dX5_cancel_30 : decode cX5_cancel 30 = .ok (.dup, 1) := by decide +kernel
theorem dX5_cancel_31 : decode cX5_cancel 31 = .ok (.ldc 175, 2) := by decide +kernel
theorem dX5_cancel_33 : decode cX5_cancel 33 = .ok (.invokespecial 101, 3) := by decide +kernel
theorem dX5_cancel_36 : decode cX5_cancel 36 = .ok (.athrow, 1) := by decide +kernel
theorem dX5_cancel_37 : decode cX5_cancel 37 = .ok (.aload_n 2, 1) := by decide +kernel
theorem dX5_cancel_38 : decode cX5_cancel 38 = .ok (.iconst 1, 1) := by decide +kernel
theorem dX5_cancel_39 : decode cX5_cancel 39 = .ok (.putfield 171, 3) := by decide +kernel
theorem dX5_cancel_42 : decode cX5_cancel 42 = .ok (.aload_n 2, 1) := by decide +kernel
theorem dX5_cancel_43 : decode cX5_cancel 43 = .ok (.getfield 177, 3) := by decide +kernel
theorem dX5_cancel_46 : decode cX5_cancel 46 = .ok (.ireturn, 1) := by decide +kernel
set_option maxRecDepth 20000 in
theorem ggX5_endDay_X5_within : GoodIn wsX5_endDay wsX5_within := goodIn_r _ [8] (by decide +kernel) (by decide +kernel)
set_option maxRecDepth 20000 in
theorem gX5_endDay_X5_within : GoodIn wsX5_endDay (va_wsS RX5 68 yX5_within wsX5_within) := goodIn_app (goodIn_of _ (by decide +kernel)) ggX5_endDay_X5_within
set_option maxRecDepth 20000 in
theorem ggX5_endDay_X5_deniedOn : GoodIn wsX5_endDay wsX5_deniedOn := goodIn_r _ [12, 13, 14, 15, 16, 17, 18, 19, 7, 20, 4, 21, 22, 23, 24, 25, 26, 27, 28, 29, 30, 31, 32, 33, 34, 35, 36, 37, 38, 60, 61, 62, 63, 64, 65, 66, 67, 68, 69, 70, 71, 72, 73, 74, 75, 76, 77, 78] (by decide +kernel) (by decide +kernel)
set_option maxRecDepth 20000 in
theorem gX5_endDay_X5_deniedOn : GoodIn wsX5_endDay (wsV RX5 181 RX5 yX5_deniedOn wsX5_deniedOn) := goodIn_app (goodIn_of _ (by decide +kernel)) ggX5_endDay_X5_deniedOn
set_option maxRecDepth 20000 in
theorem ggX5_endDay_X5_faresOfToday : GoodIn wsX5_endDay wsX5_faresOfToday := goodIn_r _ [42, 4, 21, 22, 23, 7, 24, 25, 60, 61, 62, 63, 64, 65, 66, 67, 68, 69, 70, 71, 72, 73, 74, 75, 76, 77, 78] (by decide +kernel) (by decide +kernel)
set_option maxRecDepth 20000 in
theorem gX5_endDay_X5_faresOfToday : GoodIn wsX5_endDay (wsV RX5 184 RX5 yX5_faresOfToday wsX5_faresOfToday) := goodIn_app (goodIn_of _ (by decide +kernel)) ggX5_endDay_X5_faresOfToday
set_option maxRecDepth 20000 in
theorem ggX5_endDay_X5_learn : GoodIn wsX5_endDay wsX5_learn := goodIn_r _ [46, 47, 48, 49, 50, 51, 52, 53, 54, 55, 15, 56, 57, 58, 59, 60, 61, 62, 63, 64, 65, 66, 67, 68, 69, 70, 71, 72, 73, 79, 80, 81, 82, 83, 84, 85] (by decide +kernel) (by decide +kernel)
set_option maxRecDepth 20000 in
theorem gX5_endDay_X5_learn : GoodIn wsX5_endDay (wsV RX5 188 RX5 yX5_learn wsX5_learn) := goodIn_app (goodIn_of _ (by decide +kernel)) ggX5_endDay_X5_learn
theorem dX5_endDay_0 : decode cX5_endDay 0 = .ok (.iload_n 1, 1) := by decide +kernel
theorem dX5_endDay_1 : decode cX5_endDay 1 = .ok (.iconst 0, 1) := by decide +kernel
theorem dX5_endDay_2 : decode cX5_endDay 2 = .ok (.bipush 100, 2) := by decide +kernel
theorem dX5_endDay_4 : decode cX5_endDay 4 = .ok (.invokestatic 68, 3) := by decide +kernel
theorem dX5_endDay_7 : decode cX5_endDay 7 = .ok (.ifCond .ne 13, 3) := by decide +kernel
theorem dX5_endDay_10 : decode cX5_endDay 10 = .ok (.new 72, 3) := by decide +kernel
theorem dX5_endDay_13 : decode cX5_endDay 13 = .ok (.dup, 1) := by decide +kernel
theorem dX5_endDay_14 : decode cX5_endDay 14 = .ok (.ldc 179, 2) := by decide +kernel
theorem dX5_endDay_16 : decode cX5_endDay 16 = .ok (.invokespecial 76, 3) := by decide +kernel
theorem dX5_endDay_19 : decode cX5_endDay 19 = .ok (.athrow, 1) := by decide +kernel
theorem dX5_endDay_20 : decode cX5_endDay 20 = .ok (.iconst 0, 1) := by decide +kernel
theorem dX5_endDay_21 : decode cX5_endDay 21 = .ok (.istore_n 2, 1) := by decide +kernel
theorem dX5_endDay_22 : decode cX5_endDay 22 = .ok (.iconst 0, 1) := by decide +kernel
theorem dX5_endDay_23 : decode cX5_endDay 23 = .ok (.istore_n 3, 1) := by decide +kernel
theorem dX5_endDay_24 : decode cX5_endDay 24 = .ok (.iload_n 3, 1) := by decide +kernel
theorem dX5_endDay_25 : decode cX5_endDay 25 = .ok (.iconst 3, 1) := by decide +kernel
theorem dX5_endDay_26 : decode cX5_endDay 26 = .ok (.if_icmp .ge 18, 3) := by decide +kernel
theorem dX5_endDay_29 : decode cX5_endDay 29 = .ok (.iload_n 2, 1) := by decide +kernel
theorem dX5_endDay_30 : decode cX5_endDay 30 = .ok (.aload_n 0, 1) := by decide +kernel
theorem dX5_endDay_31 : decode cX5_endDay 31 = .ok (.iload_n 3, 1) := by decide +kernel
theorem dX5_endDay_32 : decode cX5_endDay 32 = .ok (.iload_n 1, 1) := by decide +kernel
theorem dX5_endDay_33 : decode cX5_endDay 33 = .ok (.invokevirtual 181, 3) := by decide +kernel
theorem dX5_endDay_36 : decode cX5_endDay 36 = .ok (.iadd, 1) := by decide +kernel
theorem dX5_endDay_37 : decode cX5_endDay 37 = .ok (.istore_n 2, 1) := by decide +kernel
theorem dX5_endDay_38 : decode cX5_endDay 38 = .ok (.iinc 3 1, 3) := by decide +kernel
theorem dX5_endDay_41 : decode cX5_endDay 41 = .ok (.goto (-17), 3) := by decide +kernel
theorem dX5_endDay_44 : decode cX5_endDay 44 = .ok (.aload_n 0, 1) := by decide +kernel
theorem dX5_endDay_45 : decode cX5_endDay 45 = .ok (.dup, 1) := by decide +kernel
theorem dX5_endDay_46 : decode cX5_endDay 46 = .ok (.getfield 64, 3) := by decide +kernel
theorem dX5_endDay_49 : decode cX5_endDay 49 = .ok (.aload_n 0, 1) := by decide +kernel
theorem dX5_endDay_50 : decode cX5_endDay 50 = .ok (.invokevirtual 184, 3) := by decide +kernel
theorem dX5_endDay_53 : decode cX5_endDay 53 = .ok (.bipush 100, 2) := by decide +kernel
theorem dX5_endDay_55 : decode cX5_endDay 55 = .ok (.iload_n 2, 1) := by decide +kernel
theorem dX5_endDay_56 : decode cX5_endDay 56 = .ok (.imul, 1) := by decide +kernel
theorem dX5_endDay_57 : decode cX5_endDay 57 = .ok (.isub, 1) := by decide +kernel
theorem dX5_endDay_58 : decode cX5_endDay 58 = .ok (.i2l, 1) := by decide +kernel
theorem dX5_endDay_59 : decode cX5_endDay 59 = .ok (.ladd, 1) := by decide +kernel
theorem dX5_endDay_60 : decode cX5_endDay 60 = .ok (.putfield 64, 3) := by decide +kernel
theorem dX5_endDay_63 : decode cX5_endDay 63 = .ok (.aload_n 0, 1) := by decide +kernel
theorem dX5_endDay_64 : decode cX5_endDay 64 = .ok (.invokevirtual 188, 3) := by decide +kernel
theorem dX5_endDay_67 : decode cX5_endDay 67 = .ok (.aload_n 0, 1) := by decide +kernel
theorem dX5_endDay_68 : decode cX5_endDay 68 = .ok (.iconst 0, 1) := by decide +kernel
theorem dX5_endDay_69 : decode cX5_endDay 69 = .ok (.putfield 46, 3) := by decide +kernel
theorem dX5_endDay_72 : decode cX5_endDay 72 = .ok (.iload_n 2, 1) := by decide +kernel
theorem dX5_endDay_73 : decode cX5_endDay 73 = .ok (.ireturn, 1) := by decide +kernel
theorem dX5_products_0 : decode cX5_products 0 = .ok (.aload_n 0, 1) := by decide +kernel
theorem dX5_products_1 : decode cX5_products 1 = .ok (.getfield 42, 3) := by decide +kernel
theorem dX5_products_4 : decode cX5_products 4 = .ok (.ireturn, 1) := by decide +kernel
theorem dX5_days_0 : decode cX5_days 0 = .ok (.aload_n 0, 1) := by decide +kernel
theorem dX5_days_1 : decode cX5_days 1 = .ok (.getfield 49, 3) := by decide +kernel
theorem dX5_days_4 : decode cX5_days 4 = .ok (.ireturn, 1) := by decide +kernel
set_option maxRecDepth 20000 in
theorem ggX5_booked_X5_isLeg : GoodIn wsX5_booked wsX5_isLeg := goodIn_r _ [6, 7, 8, 5, 9] (by decide +kernel) (by decide +kernel)
set_option maxRecDepth 20000 in
theorem gX5_booked_X5_isLeg : GoodIn wsX5_booked (va_wsS RX5 83 yX5_isLeg wsX5_isLeg) := goodIn_app (goodIn_of _ (by decide +kernel)) ggX5_booked_X5_isLeg
set_option maxRecDepth 20000 in
theorem ggX5_booked_X5_bookedOn : GoodIn wsX5_booked wsX5_bookedOn := goodIn_r _ [13, 14, 15, 16, 17, 5, 18, 19, 20, 21, 22, 23, 24, 25, 26, 27, 28, 29, 30, 31, 32, 33, 34, 35, 36, 37, 38, 39, 40, 41, 42, 43, 44, 45, 46] (by decide +kernel) (by decide +kernel)
set_option maxRecDepth 20000 in
theorem gX5_booked_X5_bookedOn : GoodIn wsX5_booked (wsV RX5 191 RX5 yX5_bookedOn wsX5_bookedOn) := goodIn_app (goodIn_of _ (by decide +kernel)) ggX5_booked_X5_bookedOn
theorem dX5_booked_0 : decode cX5_booked 0 = .ok (.iload_n 1, 1) := by decide +kernel
theorem dX5_booked_1 : decode cX5_booked 1 = .ok (.invokestatic 83, 3) := by decide +kernel
theorem dX5_booked_4 : decode cX5_booked 4 = .ok (.ifCond .ne 13, 3) := by decide +kernel
theorem dX5_booked_7 : decode cX5_booked 7 = .ok (.new 87, 3) := by decide +kernel
theorem dX5_booked_10 : decode cX5_booked 10 = .ok (.dup, 1) := by decide +kernel
theorem dX5_booked_11 : decode cX5_booked 11 = .ok (.ldc 89, 2) := by decide +kernel
theorem dX5_booked_13 : decode cX5_booked 13 = .ok (.invokespecial 91, 3) := by decide +kernel
theorem dX5_booked_16 : decode cX5_booked 16 = .ok (.athrow, 1) := by decide +kernel
theorem dX5_booked_17 : decode cX5_booked 17 = .ok (.aload_n 0, 1) := by decide +kernel
theorem dX5_booked_18 : decode cX5_booked 18 = .ok (.iload_n 1, 1) := by decide +kernel
theorem dX5_booked_19 : decode cX5_booked 19 = .ok (.invokevirtual 191, 3) := by decide +kernel
theorem dX5_booked_22 : decode cX5_booked 22 = .ok (.ireturn, 1) := by decide +kernel
set_option maxRecDepth 20000 in
theorem ggX5_authorised_X5_isLeg : GoodIn wsX5_authorised wsX5_isLeg := goodIn_r _ [6, 7, 8, 5, 9] (by decide +kernel) (by decide +kernel)
set_option maxRecDepth 20000 in
theorem gX5_authorised_X5_isLeg : GoodIn wsX5_authorised (va_wsS RX5 83 yX5_isLeg wsX5_isLeg) := goodIn_app (goodIn_of _ (by decide +kernel)) ggX5_authorised_X5_isLeg
set_option maxRecDepth 20000 in
theorem ggX5_authorised_X5_authorisedOn : GoodIn wsX5_authorised wsX5_authorisedOn := goodIn_r _ [13, 14, 15, 16, 17, 5, 18, 19, 20, 21, 22, 23, 24, 25, 26, 27, 28, 29, 30, 31, 32, 33] (by decide +kernel) (by decide +kernel)
set_option maxRecDepth 20000 in
theorem gX5_authorised_X5_authorisedOn : GoodIn wsX5_authorised (wsV RX5 194 RX5 yX5_authorisedOn wsX5_authorisedOn) := goodIn_app (goodIn_of _ (by decide +kernel)) ggX5_authorised_X5_authorisedOn
theorem dX5_authorised_0 : decode cX5_authorised 0 = .ok (.iload_n 1, 1) := by decide +kernel
theorem dX5_authorised_1 : decode cX5_authorised 1 = .ok (.invokestatic 83, 3) := by decide +kernel
theorem dX5_authorised_4 : decode cX5_authorised 4 = .ok (.ifCond .ne 13, 3) := by decide +kernel
theorem dX5_authorised_7 : decode cX5_authorised 7 = .ok (.new 87, 3) := by decide +kernel
theorem dX5_authorised_10 : decode cX5_authorised 10 = .ok (.dup, 1) := by decide +kernel
theorem dX5_authorised_11 : decode cX5_authorised 11 = .ok (.ldc 89, 2) := by decide +kernel
theorem dX5_authorised_13 : decode cX5_authorised 13 = .ok (.invokespecial 91, 3) := by decide +kernel
theorem dX5_authorised_16 : decode cX5_authorised 16 = .ok (.athrow, 1) := by decide +kernel
theorem dX5_authorised_17 : decode cX5_authorised 17 = .ok (.aload_n 0, 1) := by decide +kernel
theorem dX5_authorised_18 : decode cX5_authorised 18 = .ok (.iload_n 1, 1) := by decide +kernel
theorem dX5_authorised_19 : decode cX5_authorised 19 = .ok (.invokevirtual 194, 3) := by decide +kernel
theorem dX5_authorised_22 : decode cX5_authorised 22 = .ok (.ireturn, 1) := by decide +kernel
set_option maxRecDepth 20000 in
theorem ggX5_protectedSeats_X5_isLeg : GoodIn wsX5_protectedSeats wsX5_isLeg := goodIn_r _ [8, 9, 10, 7, 11] (by decide +kernel) (by decide +kernel)
set_option maxRecDepth 20000 in
theorem gX5_protectedSeats_X5_isLeg : GoodIn wsX5_protectedSeats (va_wsS RX5 83 yX5_isLeg wsX5_isLeg) := goodIn_app (goodIn_of _ (by decide +kernel)) ggX5_protectedSeats_X5_isLeg
set_option maxRecDepth 20000 in
theorem ggX5_protectedSeats_X5_within : GoodIn wsX5_protectedSeats wsX5_within := goodIn_r _ [11] (by decide +kernel) (by decide +kernel)
set_option maxRecDepth 20000 in
theorem gX5_protectedSeats_X5_within : GoodIn wsX5_protectedSeats (va_wsS RX5 68 yX5_within wsX5_within) := goodIn_app (goodIn_of _ (by decide +kernel)) ggX5_protectedSeats_X5_within
set_option maxRecDepth 20000 in
theorem ggX5_protectedSeats_X5_protectedOn : GoodIn wsX5_protectedSeats wsX5_protectedOn := goodIn_r _ [15, 16, 17, 18, 19, 20, 21, 22, 23, 24, 25, 26, 27, 28, 29, 30, 31, 32, 33, 34, 35, 36, 37, 38, 39, 40, 41, 42, 43, 44, 45, 46, 47, 48, 49] (by decide +kernel) (by decide +kernel)
set_option maxRecDepth 20000 in
theorem gX5_protectedSeats_X5_protectedOn : GoodIn wsX5_protectedSeats (wsV RX5 199 RX5 yX5_protectedOn wsX5_protectedOn) := goodIn_app (goodIn_of _ (by decide +kernel)) ggX5_protectedSeats_X5_protectedOn
theorem dX5_protectedSeats_0 : decode cX5_protectedSeats 0 = .ok (.iload_n 1, 1) := by decide +kernel
theorem dX5_protectedSeats_1 : decode cX5_protectedSeats 1 = .ok (.invokestatic 83, 3) := by decide +kernel
theorem dX5_protectedSeats_4 : decode cX5_protectedSeats 4 = .ok (.ifCond .ne 13, 3) := by decide +kernel
theorem dX5_protectedSeats_7 : decode cX5_protectedSeats 7 = .ok (.new 87, 3) := by decide +kernel
theorem dX5_protectedSeats_10 : decode cX5_protectedSeats 10 = .ok (.dup, 1) := by decide +kernel
theorem dX5_protectedSeats_11 : decode cX5_protectedSeats 11 = .ok (.ldc 89, 2) := by decide +kernel
theorem dX5_protectedSeats_13 : decode cX5_protectedSeats 13 = .ok (.invokespecial 91, 3) := by decide +kernel
theorem dX5_protectedSeats_16 : decode cX5_protectedSeats 16 = .ok (.athrow, 1) := by decide +kernel
theorem dX5_protectedSeats_17 : decode cX5_protectedSeats 17 = .ok (.iload_n 2, 1) := by decide +kernel
theorem dX5_protectedSeats_18 : decode cX5_protectedSeats 18 = .ok (.iconst 1, 1) := by decide +kernel
theorem dX5_protectedSeats_19 : decode cX5_protectedSeats 19 = .ok (.sipush 1000, 3) := by decide +kernel
theorem dX5_protectedSeats_22 : decode cX5_protectedSeats 22 = .ok (.invokestatic 68, 3) := by decide +kernel
theorem dX5_protectedSeats_25 : decode cX5_protectedSeats 25 = .ok (.ifCond .ne 13, 3) := by decide +kernel
theorem dX5_protectedSeats_28 : decode cX5_protectedSeats 28 = .ok (.new 72, 3) := by decide +kernel
theorem dX5_protectedSeats_31 : decode cX5_protectedSeats 31 = .ok (.dup, 1) := by decide +kernel
theorem dX5_protectedSeats_32 : decode cX5_protectedSeats 32 = .ok (.ldc 197, 2) := by decide +kernel
theorem dX5_protectedSeats_34 : decode cX5_protectedSeats 34 = .ok (.invokespecial 76, 3) := by decide +kernel
theorem dX5_protectedSeats_37 : decode cX5_protectedSeats 37 = .ok (.athrow, 1) := by decide +kernel
theorem dX5_protectedSeats_38 : decode cX5_protectedSeats 38 = .ok (.aload_n 0, 1) := by decide +kernel
theorem dX5_protectedSeats_39 : decode cX5_protectedSeats 39 = .ok (.iload_n 1, 1) := by decide +kernel
theorem dX5_protectedSeats_40 : decode cX5_protectedSeats 40 = .ok (.iload_n 2, 1) := by decide +kernel
theorem dX5_protectedSeats_41 : decode cX5_protectedSeats 41 = .ok (.invokevirtual 199, 3) := by decide +kernel
theorem dX5_protectedSeats_44 : decode cX5_protectedSeats 44 = .ok (.ireturn, 1) := by decide +kernel
set_option maxRecDepth 20000 in
theorem ggX5_worth_X5_worthWithMore : GoodIn wsX5_worth wsX5_worthWithMore := goodIn_r _ [5, 6, 7, 8, 9, 10, 11, 12, 13, 14, 15, 16, 17, 18, 19, 20, 21, 22, 23, 24, 25, 26, 27, 28, 29, 30, 31, 32, 33, 34, 35, 36, 37, 38, 39, 40, 41, 42, 43, 4, 44, 45, 46, 47, 48, 49, 50, 51, 52, 53, 54, 55, 56, 57, 58, 59, 60, 61, 62, 63, 64, 65, 66, 67, 68, 69, 70, 71, 72, 73, 74, 75, 76, 77, 78, 79, 80, 81, 82, 83, 84, 85, 86, 87, 88, 89, 90, 91, 92, 93, 94, 95, 96, 97, 98, 99, 100, 101, 102, 103, 104, 105, 106, 107, 108, 109, 110, 111, 112, 113, 114, 115, 116, 117, 118, 119, 120, 121, 122, 123] (by decide +kernel) (by decide +kernel)
set_option maxRecDepth 20000 in
theorem gX5_worth_X5_worthWithMore : GoodIn wsX5_worth (wsV RX5 202 RX5 yX5_worthWithMore wsX5_worthWithMore) := goodIn_app (goodIn_of _ (by decide +kernel)) ggX5_worth_X5_worthWithMore
theorem dX5_worth_0 : decode cX5_worth 0 = .ok (.aload_n 0, 1) := by decide +kernel
theorem dX5_worth_1 : decode cX5_worth 1 = .ok (.iconst 0, 1) := by decide +kernel
theorem dX5_worth_2 : decode cX5_worth 2 = .ok (.iconst 0, 1) := by decide +kernel
theorem dX5_worth_3 : decode cX5_worth 3 = .ok (.iconst 0, 1) := by decide +kernel
theorem dX5_worth_4 : decode cX5_worth 4 = .ok (.invokevirtual 202, 3) := by decide +kernel
theorem dX5_worth_7 : decode cX5_worth 7 = .ok (.ireturn, 1) := by decide +kernel
set_option maxRecDepth 20000 in
theorem ggX5_worthByTable_X5_leftOn : GoodIn wsX5_worthByTable wsX5_leftOn := goodIn_r _ [7, 8, 9, 10, 11, 12, 13, 14, 6, 15, 16, 17, 18, 19, 20, 21, 22, 23, 24, 25, 26, 27, 28, 29, 30, 31, 32, 33, 34, 76, 77, 78, 79, 80, 81, 82, 83, 84, 85, 86, 87, 88, 89, 90, 91, 92, 93, 94] (by decide +kernel) (by decide +kernel)
set_option maxRecDepth 20000 in
theorem gX5_worthByTable_X5_leftOn : GoodIn wsX5_worthByTable (wsV RX5 205 RX5 yX5_leftOn wsX5_leftOn) := goodIn_app (goodIn_of _ (by decide +kernel)) ggX5_worthByTable_X5_leftOn
set_option maxRecDepth 20000 in
theorem ggX5_worthByTable_X4_clear : GoodIn wsX5_worthByTable wsX4_clear := goodIn_r _ [38, 39, 40, 41, 42, 43, 95] (by decide +kernel) (by decide +kernel)
set_option maxRecDepth 20000 in
theorem gX5_worthByTable_X4_clear_n208 : GoodIn wsX5_worthByTable (wsX4_clear) := ggX5_worthByTable_X4_clear
set_option maxRecDepth 20000 in
theorem ggX5_worthByTable_X4_admit : GoodIn wsX5_worthByTable wsX4_admit := goodIn_r _ [46, 47, 48, 10, 49, 50, 51, 52, 53, 54, 55, 56, 9, 11, 57, 58, 59, 36, 60, 61, 62, 63, 64, 65, 66, 67, 68, 69, 70, 71, 72, 39, 96, 97, 98, 99, 100, 101, 102, 95] (by decide +kernel) (by decide +kernel)
set_option maxRecDepth 20000 in
theorem gX5_worthByTable_X4_admit_n211 : GoodIn wsX5_worthByTable (wsX4_admit) := ggX5_worthByTable_X4_admit
set_option maxRecDepth 20000 in
theorem ggX5_worthByTable_X4_valueOf : GoodIn wsX5_worthByTable wsX4_valueOf := goodIn_r _ [75, 39, 66, 67, 36, 68, 95] (by decide +kernel) (by decide +kernel)
set_option maxRecDepth 20000 in
theorem gX5_worthByTable_X4_valueOf_n215 : GoodIn wsX5_worthByTable (wsX4_valueOf) := ggX5_worthByTable_X4_valueOf
theorem dX5_worthByTable_0 : decode cX5_worthByTable 0 = .ok (.aload_n 0, 1) := by decide +kernel
theorem dX5_worthByTable_1 : decode cX5_worthByTable 1 = .ok (.iconst 0, 1) := by decide +kernel
theorem dX5_worthByTable_2 : decode cX5_worthByTable 2 = .ok (.invokevirtual 205, 3) := by decide +kernel
theorem dX5_worthByTable_5 : decode cX5_worthByTable 5 = .ok (.istore_n 1, 1) := by decide +kernel
theorem dX5_worthByTable_6 : decode cX5_worthByTable 6 = .ok (.aload_n 0, 1) := by decide +kernel
theorem dX5_worthByTable_7 : decode cX5_worthByTable 7 = .ok (.iconst 1, 1) := by decide +kernel
theorem dX5_worthByTable_8 : decode cX5_worthByTable 8 = .ok (.invokevirtual 205, 3) := by decide +kernel
theorem dX5_worthByTable_11 : decode cX5_worthByTable 11 = .ok (.istore_n 2, 1) := by decide +kernel
theorem dX5_worthByTable_12 : decode cX5_worthByTable 12 = .ok (.aload_n 0, 1) := by decide +kernel
theorem dX5_worthByTable_13 : decode cX5_worthByTable 13 = .ok (.iconst 2, 1) := by decide +kernel
theorem dX5_worthByTable_14 : decode cX5_worthByTable 14 = .ok (.invokevirtual 205, 3) := by decide +kernel
theorem dX5_worthByTable_17 : decode cX5_worthByTable 17 = .ok (.istore_n 3, 1) := by decide +kernel
theorem dX5_worthByTable_18 : decode cX5_worthByTable 18 = .ok (.aload_n 0, 1) := by decide +kernel
theorem dX5_worthByTable_19 : decode cX5_worthByTable 19 = .ok (.getfield 38, 3) := by decide +kernel
theorem dX5_worthByTable_22 : decode cX5_worthByTable 22 = .ok (.invokevirtual 208, 3) := by decide +kernel
theorem dX5_worthByTable_25 : decode cX5_worthByTable 25 = .ok (.aload_n 0, 1) := by decide +kernel
theorem dX5_worthByTable_26 : decode cX5_worthByTable 26 = .ok (.getfield 15, 3) := by decide +kernel
theorem dX5_worthByTable_29 : decode cX5_worthByTable 29 = .ok (.astore 4, 2) := by decide +kernel
theorem dX5_worthByTable_31 : decode cX5_worthByTable 31 = .ok (.aload 4, 2) := by decide +kernel
theorem dX5_worthByTable_33 : decode cX5_worthByTable 33 = .ok (.arraylength, 1) := by decide +kernel
theorem dX5_worthByTable_34 : decode cX5_worthByTable 34 = .ok (.istore 5, 2) := by decide +kernel
theorem dX5_worthByTable_36 : decode cX5_worthByTable 36 = .ok (.iconst 0, 1) := by decide +kernel
theorem dX5_worthByTable_37 : decode cX5_worthByTable 37 = .ok (.istore 6, 2) := by decide +kernel
theorem dX5_worthByTable_39 : decode cX5_worthByTable 39 = .ok (.iload 6, 2) := by decide +kernel
theorem dX5_worthByTable_41 : decode cX5_worthByTable 41 = .ok (.iload 5, 2) := by decide +kernel
theorem dX5_worthByTable_43 : decode cX5_worthByTable 43 = .ok (.if_icmp .ge 33, 3) := by decide +kernel
theorem dX5_worthByTable_46 : decode cX5_worthByTable 46 = .ok (.aload 4, 2) := by decide +kernel
theorem dX5_worthByTable_48 : decode cX5_worthByTable 48 = .ok (.iload 6, 2) := by decide +kernel
theorem dX5_worthByTable_50 : decode cX5_worthByTable 50 = .ok (.aaload, 1) := by decide +kernel
theorem dX5_worthByTable_51 : decode cX5_worthByTable 51 = .ok (.astore 7, 2) := by decide +kernel
theorem dX5_worthByTable_53 : decode cX5_worthByTable 53 = .ok (.aload 7, 2) := by decide +kernel
theorem dX5_worthByTable_55 : decode cX5_worthByTable 55 = .ok (.ifnull 15, 3) := by decide +kernel
theorem dX5_worthByTable_58 : decode cX5_worthByTable 58 = .ok (.aload_n 0, 1) := by decide +kernel
theorem dX5_worthByTable_59 : decode cX5_worthByTable 59 = .ok (.getfield 38, 3) := by decide +kernel
theorem dX5_worthByTable_62 : decode cX5_worthByTable 62 = .ok (.aload 7, 2) := by decide +kernel
theorem dX5_worthByTable_64 : decode cX5_worthByTable 64 = .ok (.iload_n 1, 1) := by decide +kernel
theorem dX5_worthByTable_65 : decode cX5_worthByTable 65 = .ok (.iload_n 2, 1) := by decide +kernel
theorem dX5_worthByTable_66 : decode cX5_worthByTable 66 = .ok (.iload_n 3, 1) := by decide +kernel
theorem dX5_worthByTable_67 : decode cX5_worthByTable 67 = .ok (.invokevirtual 211, 3) := by decide +kernel
theorem dX5_worthByTable_70 : decode cX5_worthByTable 70 = .ok (.iinc 6 1, 3) := by decide +kernel
theorem dX5_worthByTable_73 : decode cX5_worthByTable 73 = .ok (.goto (-34), 3) := by decide +kernel
theorem dX5_worthByTable_76 : decode cX5_worthByTable 76 = .ok (.aload_n 0, 1) := by decide +kernel
theorem dX5_worthByTable_77 : decode cX5_worthByTable 77 = .ok (.getfield 38, 3) := by decide +kernel
theorem dX5_worthByTable_80 : decode cX5_worthByTable 80 = .ok (.iload_n 1, 1) := by decide +kernel
theorem dX5_worthByTable_81 : decode cX5_worthByTable 81 = .ok (.iload_n 2, 1) := by decide +kernel
theorem dX5_worthByTable_82 : decode cX5_worthByTable 82 = .ok (.iload_n 3, 1) := by decide +kernel
theorem dX5_worthByTable_83 : decode cX5_worthByTable 83 = .ok (.invokevirtual 215, 3) := by decide +kernel
theorem dX5_worthByTable_86 : decode cX5_worthByTable 86 = .ok (.ireturn, 1) := by decide +kernel
set_option maxRecDepth 20000 in
theorem ggX5_bid_X5_isLeg : GoodIn wsX5_bid wsX5_isLeg := goodIn_r _ [6, 7, 8, 5, 9] (by decide +kernel) (by decide +kernel)
set_option maxRecDepth 20000 in
theorem gX5_bid_X5_isLeg : GoodIn wsX5_bid (va_wsS RX5 83 yX5_isLeg wsX5_isLeg) := goodIn_app (goodIn_of _ (by decide +kernel)) ggX5_bid_X5_isLeg
set_option maxRecDepth 20000 in
theorem ggX5_bid_X5_bidsOver : GoodIn wsX5_bid wsX5_bidsOver := goodIn_r _ [13, 14, 15, 16, 5, 17, 18, 19, 20, 21, 22, 23, 24, 25, 26, 27, 28, 29, 30, 31, 32, 33, 34, 35, 36, 37, 38, 39, 40, 41, 42, 43, 44, 45, 46, 47, 48, 49, 50, 51, 52, 53, 54, 55, 56, 57, 58, 59, 60, 61, 62, 63, 64, 65, 66, 67, 68, 69, 70, 71, 72, 73, 74, 75, 76, 77, 78, 79, 80, 7, 8, 9, 81, 82, 83, 84, 85, 86, 87, 88, 89, 90, 91, 92, 93, 94, 95, 96, 97, 98, 99, 100, 101, 102, 103, 104, 105, 106, 107, 108, 109, 110, 111, 112, 113, 114, 115, 116, 117, 118, 119, 120, 121, 122, 123, 124, 125, 126, 127, 128, 129, 130, 131, 132] (by decide +kernel) (by decide +kernel)
set_option maxRecDepth 20000 in
theorem gX5_bid_X5_bidsOver : GoodIn wsX5_bid (wsV RX5 147 RX5 yX5_bidsOver wsX5_bidsOver) := goodIn_app (goodIn_of _ (by decide +kernel)) ggX5_bid_X5_bidsOver
theorem dX5_bid_0 : decode cX5_bid 0 = .ok (.iload_n 1, 1) := by decide +kernel
theorem dX5_bid_1 : decode cX5_bid 1 = .ok (.invokestatic 83, 3) := by decide +kernel
theorem dX5_bid_4 : decode cX5_bid 4 = .ok (.ifCond .ne 13, 3) := by decide +kernel
theorem dX5_bid_7 : decode cX5_bid 7 = .ok (.new 87, 3) := by decide +kernel
theorem dX5_bid_10 : decode cX5_bid 10 = .ok (.dup, 1) := by decide +kernel
theorem dX5_bid_11 : decode cX5_bid 11 = .ok (.ldc 89, 2) := by decide +kernel
theorem dX5_bid_13 : decode cX5_bid 13 = .ok (.invokespecial 91, 3) := by decide +kernel
theorem dX5_bid_16 : decode cX5_bid 16 = .ok (.athrow, 1) := by decide +kernel
theorem dX5_bid_17 : decode cX5_bid 17 = .ok (.aload_n 0, 1) := by decide +kernel
theorem dX5_bid_18 : decode cX5_bid 18 = .ok (.iload_n 1, 1) := by decide +kernel
theorem dX5_bid_19 : decode cX5_bid 19 = .ok (.iload_n 1, 1) := by decide +kernel
theorem dX5_bid_20 : decode cX5_bid 20 = .ok (.invokevirtual 147, 3) := by decide +kernel
theorem dX5_bid_23 : decode cX5_bid 23 = .ok (.ireturn, 1) := by decide +kernel
set_option maxRecDepth 20000 in
theorem ggX5_displaced_X5_isLeg : GoodIn wsX5_displaced wsX5_isLeg := goodIn_r _ [8, 9, 10, 7, 11] (by decide +kernel) (by decide +kernel)
set_option maxRecDepth 20000 in
theorem gX5_displaced_X5_isLeg : GoodIn wsX5_displaced (va_wsS RX5 83 yX5_isLeg wsX5_isLeg) := goodIn_app (goodIn_of _ (by decide +kernel)) ggX5_displaced_X5_isLeg
set_option maxRecDepth 20000 in
theorem ggX5_displaced_X5_within : GoodIn wsX5_displaced wsX5_within := goodIn_r _ [11] (by decide +kernel) (by decide +kernel)
set_option maxRecDepth 20000 in
theorem gX5_displaced_X5_within : GoodIn wsX5_displaced (va_wsS RX5 68 yX5_within wsX5_within) := goodIn_app (goodIn_of _ (by decide +kernel)) ggX5_displaced_X5_within
set_option maxRecDepth 20000 in
theorem ggX5_displaced_X5_hasLeft : GoodIn wsX5_displaced wsX5_hasLeft := goodIn_r _ [15, 16, 17, 18, 7, 19, 20, 21, 22, 23, 24, 25, 26, 27, 28, 29, 30, 31, 32, 33, 34, 35, 36, 37, 38, 39, 40, 41, 42, 43, 44, 45, 46, 105, 106, 107, 108, 109, 110, 111, 112, 113, 114, 115, 116, 117, 118, 119, 120, 121, 122, 123] (by decide +kernel) (by decide +kernel)
set_option maxRecDepth 20000 in
theorem gX5_displaced_X5_hasLeft : GoodIn wsX5_displaced (wsV RX5 158 RX5 yX5_hasLeft wsX5_hasLeft) := goodIn_app (goodIn_of _ (by decide +kernel)) ggX5_displaced_X5_hasLeft
set_option maxRecDepth 20000 in
theorem ggX5_displaced_X5_displacement : GoodIn wsX5_displaced wsX5_displacement := goodIn_r _ [50, 51, 52, 53, 7, 54, 55, 56, 57, 58, 59, 60, 61, 62, 63, 64, 65, 66, 67, 68, 69, 70, 71, 72, 73, 74, 75, 76, 77, 78, 79, 80, 21, 22, 23, 81, 82, 83, 84, 85, 86, 16, 17, 18, 19, 20, 24, 25, 26, 27, 28, 29, 30, 31, 32, 33, 34, 35, 36, 37, 38, 39, 40, 41, 42, 43, 44, 45, 46, 9, 10, 11, 87, 88, 89, 90, 91, 92, 93, 94, 95, 96, 97, 98, 99, 100, 101, 102, 103, 104, 105, 106, 107, 108, 109, 110, 111, 112, 113, 114, 115, 116, 117, 118, 124, 125, 126, 127, 128, 129, 130, 131, 132, 133, 134, 135, 136, 137, 138, 119, 120, 121, 122, 123] (by decide +kernel) (by decide +kernel)
set_option maxRecDepth 20000 in
theorem gX5_displaced_X5_displacement : GoodIn wsX5_displaced (wsV RX5 161 RX5 yX5_displacement wsX5_displacement) := goodIn_app (goodIn_of _ (by decide +kernel)) ggX5_displaced_X5_displacement
theorem dX5_displaced_0 : decode cX5_displaced 0 = .ok (.iload_n 1, 1) := by decide +kernel
theorem dX5_displaced_1 : decode cX5_displaced 1 = .ok (.invokestatic 83, 3) := by decide +kernel
theorem dX5_displaced_4 : decode cX5_displaced 4 = .ok (.ifCond .eq 10, 3) := by decide +kernel
theorem dX5_displaced_7 : decode cX5_displaced 7 = .ok (.iload_n 2, 1) := by decide +kernel
theorem dX5_displaced_8 : decode cX5_displaced 8 = .ok (.invokestatic 83, 3) := by decide +kernel
theorem dX5_displaced_11 : decode cX5_displaced 11 = .ok (.ifCond .ne 13, 3) := by decide +kernel
theorem dX5_displaced_14 : decode cX5_displaced 14 = .ok (.new 87, 3) := by decide +kernel
theorem dX5_displaced_17 : decode cX5_displaced 17 = .ok (.dup, 1) := by decide +kernel
theorem dX5_displaced_18 : decode cX5_displaced 18 = .ok (.ldc 89, 2) := by decide +kernel
theorem dX5_displaced_20 : decode cX5_displaced 20 = .ok (.invokespecial 91, 3) := by decide +kernel
theorem dX5_displaced_23 : decode cX5_displaced 23 = .ok (.athrow, 1) := by decide +kernel
theorem dX5_displaced_24 : decode cX5_displaced 24 = .ok (.iload_n 2, 1) := by decide +kernel
theorem dX5_displaced_25 : decode cX5_displaced 25 = .ok (.iload_n 1, 1) := by decide +kernel
theorem dX5_displaced_26 : decode cX5_displaced 26 = .ok (.if_icmp .lt 13, 3) := by decide +kernel
theorem dX5_displaced_29 : decode cX5_displaced 29 = .ok (.iload_n 3, 1) := by decide +kernel
theorem dX5_displaced_30 : decode cX5_displaced 30 = .ok (.iconst 1, 1) := by decide +kernel
theorem dX5_displaced_31 : decode cX5_displaced 31 = .ok (.bipush 10, 2) := by decide +kernel
theorem dX5_displaced_33 : decode cX5_displaced 33 = .ok (.invokestatic 68, 3) := by decide +kernel
theorem dX5_displaced_36 : decode cX5_displaced 36 = .ok (.ifCond .ne 13, 3) := by decide +kernel
theorem dX5_displaced_39 : decode cX5_displaced 39 = .ok (.new 72, 3) := by decide +kernel
theorem dX5_displaced_42 : decode cX5_displaced 42 = .ok (.dup, 1) := by decide +kernel
theorem dX5_displaced_43 : decode cX5_displaced 43 = .ok (.ldc 218, 2) := by decide +kernel
theorem dX5_displaced_45 : decode cX5_displaced 45 = .ok (.invokespecial 76, 3) := by decide +kernel
theorem dX5_displaced_48 : decode cX5_displaced 48 = .ok (.athrow, 1) := by decide +kernel
theorem dX5_displaced_49 : decode cX5_displaced 49 = .ok (.aload_n 0, 1) := by decide +kernel
theorem dX5_displaced_50 : decode cX5_displaced 50 = .ok (.iload_n 1, 1) := by decide +kernel
theorem dX5_displaced_51 : decode cX5_displaced 51 = .ok (.iload_n 2, 1) := by decide +kernel
theorem dX5_displaced_52 : decode cX5_displaced 52 = .ok (.iload_n 3, 1) := by decide +kernel
theorem dX5_displaced_53 : decode cX5_displaced 53 = .ok (.invokevirtual 158, 3) := by decide +kernel
theorem dX5_displaced_56 : decode cX5_displaced 56 = .ok (.ifCond .eq 13, 3) := by decide +kernel
theorem dX5_displaced_59 : decode cX5_displaced 59 = .ok (.aload_n 0, 1) := by decide +kernel
theorem dX5_displaced_60 : decode cX5_displaced 60 = .ok (.iload_n 1, 1) := by decide +kernel
theorem dX5_displaced_61 : decode cX5_displaced 61 = .ok (.iload_n 2, 1) := by decide +kernel
theorem dX5_displaced_62 : decode cX5_displaced 62 = .ok (.iload_n 3, 1) := by decide +kernel
theorem dX5_displaced_63 : decode cX5_displaced 63 = .ok (.invokevirtual 161, 3) := by decide +kernel
theorem dX5_displaced_66 : decode cX5_displaced 66 = .ok (.goto 4, 3) := by decide +kernel
theorem dX5_displaced_69 : decode cX5_displaced 69 = .ok (.iconst (-1), 1) := by decide +kernel
theorem dX5_displaced_70 : decode cX5_displaced 70 = .ok (.ireturn, 1) := by decide +kernel
set_option maxRecDepth 20000 in
theorem ggX5_expected_X5_productAt : GoodIn wsX5_expected wsX5_productAt := goodIn_r _ [7, 8, 16, 17, 18, 19, 20, 21, 22, 23, 24, 25, 26, 27, 28, 29] (by decide +kernel) (by decide +kernel)
set_option maxRecDepth 20000 in
theorem gX5_expected_X5_productAt : GoodIn wsX5_expected (wsV RX5 109 RX5 yX5_productAt wsX5_productAt) := goodIn_app (goodIn_of _ (by decide +kernel)) ggX5_expected_X5_productAt
theorem dX5_expected_0 : decode cX5_expected 0 = .ok (.aload_n 0, 1) := by decide +kernel
theorem dX5_expected_1 : decode cX5_expected 1 = .ok (.iload_n 1, 1) := by decide +kernel
theorem dX5_expected_2 : decode cX5_expected 2 = .ok (.invokevirtual 109, 3) := by decide +kernel
theorem dX5_expected_5 : decode cX5_expected 5 = .ok (.astore_n 2, 1) := by decide +kernel
theorem dX5_expected_6 : decode cX5_expected 6 = .ok (.aload_n 2, 1) := by decide +kernel
theorem dX5_expected_7 : decode cX5_expected 7 = .ok (.ifnonnull 13, 3) := by decide +kernel
theorem dX5_expected_10 : decode cX5_expected 10 = .ok (.new 87, 3) := by decide +kernel
theorem dX5_expected_13 : decode cX5_expected 13 = .ok (.dup, 1) := by decide +kernel
theorem dX5_expected_14 : decode cX5_expected 14 = .ok (.ldc 113, 2) := by decide +kernel
theorem dX5_expected_16 : decode cX5_expected 16 = .ok (.invokespecial 91, 3) := by decide +kernel
theorem dX5_expected_19 : decode cX5_expected 19 = .ok (.athrow, 1) := by decide +kernel
theorem dX5_expected_20 : decode cX5_expected 20 = .ok (.aload_n 2, 1) := by decide +kernel
theorem dX5_expected_21 : decode cX5_expected 21 = .ok (.getfield 117, 3) := by decide +kernel
theorem dX5_expected_24 : decode cX5_expected 24 = .ok (.ireturn, 1) := by decide +kernel
set_option maxRecDepth 20000 in
theorem ggX5_average_X5_productAt : GoodIn wsX5_average wsX5_productAt := goodIn_r _ [8, 9, 10, 11, 12, 13, 14, 15, 16, 17, 18, 19, 20, 21, 22, 23] (by decide +kernel) (by decide +kernel)
set_option maxRecDepth 20000 in
theorem gX5_average_X5_productAt : GoodIn wsX5_average (wsV RX5 109 RX5 yX5_productAt wsX5_productAt) := goodIn_app (goodIn_of _ (by decide +kernel)) ggX5_average_X5_productAt
theorem dX5_average_0 : decode cX5_average 0 = .ok (.aload_n 0, 1) := by decide +kernel
theorem dX5_average_1 : decode cX5_average 1 = .ok (.iload_n 1, 1) := by decide +kernel
theorem dX5_average_2 : decode cX5_average 2 = .ok (.invokevirtual 109, 3) := by decide +kernel
theorem dX5_average_5 : decode cX5_average 5 = .ok (.astore_n 2, 1) := by decide +kernel
theorem dX5_average_6 : decode cX5_average 6 = .ok (.aload_n 2, 1) := by decide +kernel
theorem dX5_average_7 : decode cX5_average 7 = .ok (.ifnonnull 13, 3) := by decide +kernel
theorem dX5_average_10 : decode cX5_average 10 = .ok (.new 87, 3) := by decide +kernel
theorem dX5_average_13 : decode cX5_average 13 = .ok (.dup, 1) := by decide +kernel
theorem dX5_average_14 : decode cX5_average 14 = .ok (.ldc 113, 2) := by decide +kernel
theorem dX5_average_16 : decode cX5_average 16 = .ok (.invokespecial 91, 3) := by decide +kernel
theorem dX5_average_19 : decode cX5_average 19 = .ok (.athrow, 1) := by decide +kernel
theorem dX5_average_20 : decode cX5_average 20 = .ok (.aload_n 0, 1) := by decide +kernel
theorem dX5_average_21 : decode cX5_average 21 = .ok (.getfield 49, 3) := by decide +kernel
theorem dX5_average_24 : decode cX5_average 24 = .ok (.ifCond .gt 5, 3) := by decide +kernel
theorem dX5_average_27 : decode cX5_average 27 = .ok (.fconst 0, 1) := by decide +kernel
theorem dX5_average_28 : decode cX5_average 28 = .ok (.freturn, 1) := by decide +kernel
theorem dX5_average_29 : decode cX5_average 29 = .ok (.aload_n 2, 1) := by decide +kernel
theorem dX5_average_30 : decode cX5_average 30 = .ok (.getfield 220, 3) := by decide +kernel
theorem dX5_average_33 : decode cX5_average 33 = .ok (.i2f, 1) := by decide +kernel
theorem dX5_average_34 : decode cX5_average 34 = .ok (.aload_n 0, 1) := by decide +kernel
theorem dX5_average_35 : decode cX5_average 35 = .ok (.getfield 49, 3) := by decide +kernel
theorem dX5_average_38 : decode cX5_average 38 = .ok (.i2f, 1) := by decide +kernel
theorem dX5_average_39 : decode cX5_average 39 = .ok (.fdiv, 1) := by decide +kernel
theorem dX5_average_40 : decode cX5_average 40 = .ok (.freturn, 1) := by decide +kernel
set_option maxRecDepth 20000 in
theorem ggX5_asked_X5_productAt : GoodIn wsX5_asked wsX5_productAt := goodIn_r _ [7, 8, 16, 17, 18, 19, 20, 21, 22, 23, 24, 25, 26, 27, 28, 29] (by decide +kernel) (by decide +kernel)
set_option maxRecDepth 20000 in
theorem gX5_asked_X5_productAt : GoodIn wsX5_asked (wsV RX5 109 RX5 yX5_productAt wsX5_productAt) := goodIn_app (goodIn_of _ (by decide +kernel)) ggX5_asked_X5_productAt
theorem dX5_asked_0 : decode cX5_asked 0 = .ok (.aload_n 0, 1) := by decide +kernel
theorem dX5_asked_1 : decode cX5_asked 1 = .ok (.iload_n 1, 1) := by decide +kernel
theorem dX5_asked_2 : decode cX5_asked 2 = .ok (.invokevirtual 109, 3) := by decide +kernel
theorem dX5_asked_5 : decode cX5_asked 5 = .ok (.astore_n 2, 1) := by decide +kernel
theorem dX5_asked_6 : decode cX5_asked 6 = .ok (.aload_n 2, 1) := by decide +kernel
theorem dX5_asked_7 : decode cX5_asked 7 = .ok (.ifnonnull 13, 3) := by decide +kernel
theorem dX5_asked_10 : decode cX5_asked 10 = .ok (.new 87, 3) := by decide +kernel
theorem dX5_asked_13 : decode cX5_asked 13 = .ok (.dup, 1) := by decide +kernel
theorem dX5_asked_14 : decode cX5_asked 14 = .ok (.ldc 113, 2) := by decide +kernel
theorem dX5_asked_16 : decode cX5_asked 16 = .ok (.invokespecial 91, 3) := by decide +kernel
theorem dX5_asked_19 : decode cX5_asked 19 = .ok (.athrow, 1) := by decide +kernel
theorem dX5_asked_20 : decode cX5_asked 20 = .ok (.aload_n 2, 1) := by decide +kernel
theorem dX5_asked_21 : decode cX5_asked 21 = .ok (.getfield 124, 3) := by decide +kernel
theorem dX5_asked_24 : decode cX5_asked 24 = .ok (.ireturn, 1) := by decide +kernel
theorem dX5_refused_0 : decode cX5_refused 0 = .ok (.iload_n 1, 1) := by decide +kernel
theorem dX5_refused_1 : decode cX5_refused 1 = .ok (.tableswitch 42 (-3) (-1) #[37, 32, 27], 27) := by decide +kernel
theorem dX5_refused_28 : decode cX5_refused 28 = .ok (.aload_n 0, 1) := by decide +kernel
theorem dX5_refused_29 : decode cX5_refused 29 = .ok (.getfield 55, 3) := by decide +kernel
theorem dX5_refused_32 : decode cX5_refused 32 = .ok (.ireturn, 1) := by decide +kernel
theorem dX5_refused_33 : decode cX5_refused 33 = .ok (.aload_n 0, 1) := by decide +kernel
theorem dX5_refused_34 : decode cX5_refused 34 = .ok (.getfield 58, 3) := by decide +kernel
theorem dX5_refused_37 : decode cX5_refused 37 = .ok (.ireturn, 1) := by decide +kernel
theorem dX5_refused_38 : decode cX5_refused 38 = .ok (.aload_n 0, 1) := by decide +kernel
theorem dX5_refused_39 : decode cX5_refused 39 = .ok (.getfield 61, 3) := by decide +kernel
theorem dX5_refused_42 : decode cX5_refused 42 = .ok (.ireturn, 1) := by decide +kernel
theorem dX5_refused_43 : decode cX5_refused 43 = .ok (.new 72, 3) := by decide +kernel
theorem dX5_refused_46 : decode cX5_refused 46 = .ok (.dup, 1) := by decide +kernel
theorem dX5_refused_47 : decode cX5_refused 47 = .ok (.ldc 223, 2) := by decide +kernel
theorem dX5_refused_49 : decode cX5_refused 49 = .ok (.invokespecial 76, 3) := by decide +kernel
theorem dX5_refused_52 : decode cX5_refused 52 = .ok (.athrow, 1) := by decide +kernel
set_option maxRecDepth 20000 in
theorem ggX5_revenue_X5_faresOfToday : GoodIn wsX5_revenue wsX5_faresOfToday := goodIn_r _ [5, 6, 7, 8, 9, 4, 10, 11, 12, 13, 14, 15, 16, 17, 18, 19, 20, 21, 22, 23, 24, 25, 26, 27, 28, 29, 30] (by decide +kernel) (by decide +kernel)
set_option maxRecDepth 20000 in
theorem gX5_revenue_X5_faresOfToday : GoodIn wsX5_revenue (wsV RX5 184 RX5 yX5_faresOfToday wsX5_faresOfToday) := goodIn_app (goodIn_of _ (by decide +kernel)) ggX5_revenue_X5_faresOfToday
theorem dX5_revenue_0 : decode cX5_revenue 0 = .ok (.aload_n 0, 1) := by decide +kernel
theorem dX5_revenue_1 : decode cX5_revenue 1 = .ok (.invokevirtual 184, 3) := by decide +kernel
theorem dX5_revenue_4 : decode cX5_revenue 4 = .ok (.ireturn, 1) := by decide +kernel
theorem dX5_earned_0 : decode cX5_earned 0 = .ok (.aload_n 0, 1) := by decide +kernel
theorem dX5_earned_1 : decode cX5_earned 1 = .ok (.getfield 64, 3) := by decide +kernel
theorem dX5_earned_4 : decode cX5_earned 4 = .ok (.lreturn, 1) := by decide +kernel
theorem dX5_within_0 : decode cX5_within 0 = .ok (.iload_n 0, 1) := by decide +kernel
theorem dX5_within_1 : decode cX5_within 1 = .ok (.iload_n 1, 1) := by decide +kernel
theorem dX5_within_2 : decode cX5_within 2 = .ok (.if_icmp .lt 12, 3) := by decide +kernel
theorem dX5_within_5 : decode cX5_within 5 = .ok (.iload_n 0, 1) := by decide +kernel
theorem dX5_within_6 : decode cX5_within 6 = .ok (.iload_n 2, 1) := by decide +kernel
theorem dX5_within_7 : decode cX5_within 7 = .ok (.if_icmp .gt 7, 3) := by decide +kernel
theorem dX5_within_10 : decode cX5_within 10 = .ok (.iconst 1, 1) := by decide +kernel
theorem dX5_within_11 : decode cX5_within 11 = .ok (.goto 4, 3) := by decide +kernel
theorem dX5_within_14 : decode cX5_within 14 = .ok (.iconst 0, 1) := by decide +kernel
theorem dX5_within_15 : decode cX5_within 15 = .ok (.ireturn, 1) := by decide +kernel
set_option maxRecDepth 20000 in
theorem ggX5_isLeg_X5_within : GoodIn wsX5_isLeg wsX5_within := goodIn_r _ [4] (by decide +kernel) (by decide +kernel)
set_option maxRecDepth 20000 in
theorem gX5_isLeg_X5_within : GoodIn wsX5_isLeg (va_wsS RX5 68 yX5_within wsX5_within) := goodIn_app (goodIn_of _ (by decide +kernel)) ggX5_isLeg_X5_within
theorem dX5_isLeg_0 : decode cX5_isLeg 0 = .ok (.iload_n 0, 1) := by decide +kernel
theorem dX5_isLeg_1 : decode cX5_isLeg 1 = .ok (.iconst 0, 1) := by decide +kernel
theorem dX5_isLeg_2 : decode cX5_isLeg 2 = .ok (.iconst 2, 1) := by decide +kernel
theorem dX5_isLeg_3 : decode cX5_isLeg 3 = .ok (.invokestatic 68, 3) := by decide +kernel
theorem dX5_isLeg_6 : decode cX5_isLeg 6 = .ok (.ireturn, 1) := by decide +kernel
theorem dX5_putSeats_0 : decode cX5_putSeats 0 = .ok (.iload_n 1, 1) := by decide +kernel
theorem dX5_putSeats_1 : decode cX5_putSeats 1 = .ok (.ifCond .lt 19, 3) := by decide +kernel
theorem dX5_putSeats_4 : decode cX5_putSeats 4 = .ok (.iload_n 1, 1) := by decide +kernel
theorem dX5_putSeats_5 : decode cX5_putSeats 5 = .ok (.aload_n 0, 1) := by decide +kernel
theorem dX5_putSeats_6 : decode cX5_putSeats 6 = .ok (.getfield 9, 3) := by decide +kernel
theorem dX5_putSeats_9 : decode cX5_putSeats 9 = .ok (.arraylength, 1) := by decide +kernel
theorem dX5_putSeats_10 : decode cX5_putSeats 10 = .ok (.if_icmp .ge 10, 3) := by decide +kernel
theorem dX5_putSeats_13 : decode cX5_putSeats 13 = .ok (.aload_n 0, 1) := by decide +kernel
theorem dX5_putSeats_14 : decode cX5_putSeats 14 = .ok (.getfield 9, 3) := by decide +kernel
theorem dX5_putSeats_17 : decode cX5_putSeats 17 = .ok (.iload_n 1, 1) := by decide +kernel
theorem dX5_putSeats_18 : decode cX5_putSeats 18 = .ok (.iload_n 2, 1) := by decide +kernel
theorem dX5_putSeats_19 : decode cX5_putSeats 19 = .ok (.iastore, 1) := by decide +kernel
theorem dX5_putSeats_20 : decode cX5_putSeats 20 = .ok (.return_, 1) := by decide +kernel
theorem dX5_seatsOf_0 : decode cX5_seatsOf 0 = .ok (.iload_n 1, 1) := by decide +kernel
theorem dX5_seatsOf_1 : decode cX5_seatsOf 1 = .ok (.ifCond .lt 21, 3) := by decide +kernel
theorem dX5_seatsOf_4 : decode cX5_seatsOf 4 = .ok (.iload_n 1, 1) := by decide +kernel
theorem dX5_seatsOf_5 : decode cX5_seatsOf 5 = .ok (.aload_n 0, 1) := by decide +kernel
theorem dX5_seatsOf_6 : decode cX5_seatsOf 6 = .ok (.getfield 9, 3) := by decide +kernel
theorem dX5_seatsOf_9 : decode cX5_seatsOf 9 = .ok (.arraylength, 1) := by decide +kernel
theorem dX5_seatsOf_10 : decode cX5_seatsOf 10 = .ok (.if_icmp .ge 12, 3) := by decide +kernel
theorem dX5_seatsOf_13 : decode cX5_seatsOf 13 = .ok (.aload_n 0, 1) := by decide +kernel
theorem dX5_seatsOf_14 : decode cX5_seatsOf 14 = .ok (.getfield 9, 3) := by decide +kernel
theorem dX5_seatsOf_17 : decode cX5_seatsOf 17 = .ok (.iload_n 1, 1) := by decide +kernel
theorem dX5_seatsOf_18 : decode cX5_seatsOf 18 = .ok (.iaload, 1) := by decide +kernel
theorem dX5_seatsOf_19 : decode cX5_seatsOf 19 = .ok (.goto 4, 3) := by decide +kernel
theorem dX5_seatsOf_22 : decode cX5_seatsOf 22 = .ok (.iconst 0, 1) := by decide +kernel
theorem dX5_seatsOf_23 : decode cX5_seatsOf 23 = .ok (.ireturn, 1) := by decide +kernel
set_option maxRecDepth 20000 in
theorem ggX5_authorisedOn_X5_seatsOf : GoodIn wsX5_authorisedOn wsX5_seatsOf := goodIn_r _ [6, 7, 8, 9, 10, 11, 12, 13, 14, 15, 16, 17, 18, 19, 20, 21] (by decide +kernel) (by decide +kernel)
set_option maxRecDepth 20000 in
theorem gX5_authorisedOn_X5_seatsOf : GoodIn wsX5_authorisedOn (wsV RX5 225 RX5 yX5_seatsOf wsX5_seatsOf) := goodIn_app (goodIn_of _ (by decide +kernel)) ggX5_authorisedOn_X5_seatsOf
theorem dX5_authorisedOn_0 : decode cX5_authorisedOn 0 = .ok (.aload_n 0, 1) := by decide +kernel
theorem dX5_authorisedOn_1 : decode cX5_authorisedOn 1 = .ok (.iload_n 1, 1) := by decide +kernel
theorem dX5_authorisedOn_2 : decode cX5_authorisedOn 2 = .ok (.invokevirtual 225, 3) := by decide +kernel
theorem dX5_authorisedOn_5 : decode cX5_authorisedOn 5 = .ok (.istore_n 2, 1) := by decide +kernel
theorem dX5_authorisedOn_6 : decode cX5_authorisedOn 6 = .ok (.iload_n 2, 1) := by decide +kernel
theorem dX5_authorisedOn_7 : decode cX5_authorisedOn 7 = .ok (.iload_n 2, 1) := by decide +kernel
theorem dX5_authorisedOn_8 : decode cX5_authorisedOn 8 = .ok (.bipush 100, 2) := by decide +kernel
theorem dX5_authorisedOn_10 : decode cX5_authorisedOn 10 = .ok (.aload_n 0, 1) := by decide +kernel
theorem dX5_authorisedOn_11 : decode cX5_authorisedOn 11 = .ok (.getfield 52, 3) := by decide +kernel
theorem dX5_authorisedOn_14 : decode cX5_authorisedOn 14 = .ok (.isub, 1) := by decide +kernel
theorem dX5_authorisedOn_15 : decode cX5_authorisedOn 15 = .ok (.imul, 1) := by decide +kernel
theorem dX5_authorisedOn_16 : decode cX5_authorisedOn 16 = .ok (.bipush 100, 2) := by decide +kernel
theorem dX5_authorisedOn_18 : decode cX5_authorisedOn 18 = .ok (.idiv, 1) := by decide +kernel
theorem dX5_authorisedOn_19 : decode cX5_authorisedOn 19 = .ok (.iadd, 1) := by decide +kernel
theorem dX5_authorisedOn_20 : decode cX5_authorisedOn 20 = .ok (.ireturn, 1) := by decide +kernel
set_option maxRecDepth 20000 in
theorem ggX5_bookedOn_X5_bookingAt : GoodIn wsX5_bookedOn wsX5_bookingAt := goodIn_r _ [6, 1, 7, 16, 17, 18, 19, 20, 21, 22, 23, 24, 25, 26, 27, 28, 29] (by decide +kernel) (by decide +kernel)
set_option maxRecDepth 20000 in
theorem gX5_bookedOn_X5_bookingAt : GoodIn wsX5_bookedOn (wsV RX5 165 RX5 yX5_bookingAt wsX5_bookingAt) := goodIn_app (goodIn_of _ (by decide +kernel)) ggX5_bookedOn_X5_bookingAt
set_option maxRecDepth 20000 in
theorem ggX5_bookedOn_X0_seatsOn : GoodIn wsX5_bookedOn wsX0_seatsOn := goodIn_r _ [11, 12, 13, 14, 15, 30, 31, 32, 33, 34] (by decide +kernel) (by decide +kernel)
set_option maxRecDepth 20000 in
theorem gX5_bookedOn_X0_seatsOn_n228 : GoodIn wsX5_bookedOn (wsX0_seatsOn) := ggX5_bookedOn_X0_seatsOn
theorem dX5_bookedOn_0 : decode cX5_bookedOn 0 = .ok (.iconst 0, 1) := by decide +kernel
theorem dX5_bookedOn_1 : decode cX5_bookedOn 1 = .ok (.istore_n 2, 1) := by decide +kernel
theorem dX5_bookedOn_2 : decode cX5_bookedOn 2 = .ok (.iconst 0, 1) := by decide +kernel
theorem dX5_bookedOn_3 : decode cX5_bookedOn 3 = .ok (.istore_n 3, 1) := by decide +kernel
theorem dX5_bookedOn_4 : decode cX5_bookedOn 4 = .ok (.iload_n 3, 1) := by decide +kernel
theorem dX5_bookedOn_5 : decode cX5_bookedOn 5 = .ok (.aload_n 0, 1) := by decide +kernel
theorem dX5_bookedOn_6 : decode cX5_bookedOn 6 = .ok (.getfield 46, 3) := by decide +kernel
theorem dX5_bookedOn_9 : decode cX5_bookedOn 9 = .ok (.if_icmp .ge 30, 3) := by decide +kernel
theorem dX5_bookedOn_12 : decode cX5_bookedOn 12 = .ok (.aload_n 0, 1) := by decide +kernel
theorem dX5_bookedOn_13 : decode cX5_bookedOn 13 = .ok (.iload_n 3, 1) := by decide +kernel
theorem dX5_bookedOn_14 : decode cX5_bookedOn 14 = .ok (.invokevirtual 165, 3) := by decide +kernel
theorem dX5_bookedOn_17 : decode cX5_bookedOn 17 = .ok (.astore 4, 2) := by decide +kernel
theorem dX5_bookedOn_19 : decode cX5_bookedOn 19 = .ok (.aload 4, 2) := by decide +kernel
theorem dX5_bookedOn_21 : decode cX5_bookedOn 21 = .ok (.ifnull 12, 3) := by decide +kernel
theorem dX5_bookedOn_24 : decode cX5_bookedOn 24 = .ok (.iload_n 2, 1) := by decide +kernel
theorem dX5_bookedOn_25 : decode cX5_bookedOn 25 = .ok (.aload 4, 2) := by decide +kernel
theorem dX5_bookedOn_27 : decode cX5_bookedOn 27 = .ok (.iload_n 1, 1) := by decide +kernel
theorem dX5_bookedOn_28 : decode cX5_bookedOn 28 = .ok (.invokevirtual 228, 3) := by decide +kernel
theorem dX5_bookedOn_31 : decode cX5_bookedOn 31 = .ok (.iadd, 1) := by decide +kernel
theorem dX5_bookedOn_32 : decode cX5_bookedOn 32 = .ok (.istore_n 2, 1) := by decide +kernel
theorem dX5_bookedOn_33 : decode cX5_bookedOn 33 = .ok (.iinc 3 1, 3) := by decide +kernel
theorem dX5_bookedOn_36 : decode cX5_bookedOn 36 = .ok (.goto (-32), 3) := by decide +kernel
theorem dX5_bookedOn_39 : decode cX5_bookedOn 39 = .ok (.iload_n 2, 1) := by decide +kernel
theorem dX5_bookedOn_40 : decode cX5_bookedOn 40 = .ok (.ireturn, 1) := by decide +kernel
set_option maxRecDepth 20000 in
theorem ggX5_leftOn_X5_seatsOf : GoodIn wsX5_leftOn wsX5_seatsOf := goodIn_r _ [9, 10, 29, 30, 31, 32, 33, 34, 35, 36, 37, 38, 39, 40, 41, 42] (by decide +kernel) (by decide +kernel)
set_option maxRecDepth 20000 in
theorem gX5_leftOn_X5_seatsOf : GoodIn wsX5_leftOn (wsV RX5 225 RX5 yX5_seatsOf wsX5_seatsOf) := goodIn_app (goodIn_of _ (by decide +kernel)) ggX5_leftOn_X5_seatsOf
set_option maxRecDepth 20000 in
theorem ggX5_leftOn_X5_bookedOn : GoodIn wsX5_leftOn wsX5_bookedOn := goodIn_r _ [14, 15, 16, 17, 18, 8, 19, 20, 21, 22, 23, 24, 25, 26, 27, 28, 29, 30, 31, 32, 33, 34, 35, 36, 37, 38, 39, 40, 41, 42, 43, 44, 45, 46, 47] (by decide +kernel) (by decide +kernel)
set_option maxRecDepth 20000 in
theorem gX5_leftOn_X5_bookedOn : GoodIn wsX5_leftOn (wsV RX5 191 RX5 yX5_bookedOn wsX5_bookedOn) := goodIn_app (goodIn_of _ (by decide +kernel)) ggX5_leftOn_X5_bookedOn
theorem dX5_leftOn_0 : decode cX5_leftOn 0 = .ok (.iconst 0, 1) := by decide +kernel
theorem dX5_leftOn_1 : decode cX5_leftOn 1 = .ok (.aload_n 0, 1) := by decide +kernel
theorem dX5_leftOn_2 : decode cX5_leftOn 2 = .ok (.iload_n 1, 1) := by decide +kernel
theorem dX5_leftOn_3 : decode cX5_leftOn 3 = .ok (.invokevirtual 225, 3) := by decide +kernel
theorem dX5_leftOn_6 : decode cX5_leftOn 6 = .ok (.aload_n 0, 1) := by decide +kernel
theorem dX5_leftOn_7 : decode cX5_leftOn 7 = .ok (.iload_n 1, 1) := by decide +kernel
theorem dX5_leftOn_8 : decode cX5_leftOn 8 = .ok (.invokevirtual 191, 3) := by decide +kernel
theorem dX5_leftOn_11 : decode cX5_leftOn 11 = .ok (.isub, 1) := by decide +kernel
theorem dX5_leftOn_12 : decode cX5_leftOn 12 = .ok (.invokestatic 231, 3) := by decide +kernel
theorem dX5_leftOn_15 : decode cX5_leftOn 15 = .ok (.ireturn, 1) := by decide +kernel
set_option maxRecDepth 20000 in
theorem ggX5_hasLeft_X5_leftOn : GoodIn wsX5_hasLeft wsX5_leftOn := goodIn_r _ [5, 6, 7, 8, 9, 10, 11, 12, 4, 13, 14, 15, 16, 17, 18, 19, 20, 21, 22, 23, 24, 25, 26, 27, 28, 29, 30, 31, 32, 33, 34, 35, 36, 37, 38, 39, 40, 41, 42, 43, 44, 45, 46, 47, 48, 49, 50, 51] (by decide +kernel) (by decide +kernel)
set_option maxRecDepth 20000 in
theorem gX5_hasLeft_X5_leftOn : GoodIn wsX5_hasLeft (wsV RX5 205 RX5 yX5_leftOn wsX5_leftOn) := goodIn_app (goodIn_of _ (by decide +kernel)) ggX5_hasLeft_X5_leftOn
theorem dX5_hasLeft_0 : decode cX5_hasLeft 0 = .ok (.iload_n 1, 1) := by decide +kernel
theorem dX5_hasLeft_1 : decode cX5_hasLeft 1 = .ok (.istore 4, 2) := by decide +kernel
theorem dX5_hasLeft_3 : decode cX5_hasLeft 3 = .ok (.iload 4, 2) := by decide +kernel
theorem dX5_hasLeft_5 : decode cX5_hasLeft 5 = .ok (.iload_n 2, 1) := by decide +kernel
theorem dX5_hasLeft_6 : decode cX5_hasLeft 6 = .ok (.if_icmp .gt 21, 3) := by decide +kernel
theorem dX5_hasLeft_9 : decode cX5_hasLeft 9 = .ok (.aload_n 0, 1) := by decide +kernel
theorem dX5_hasLeft_10 : decode cX5_hasLeft 10 = .ok (.iload 4, 2) := by decide +kernel
theorem dX5_hasLeft_12 : decode cX5_hasLeft 12 = .ok (.invokevirtual 205, 3) := by decide +kernel
theorem dX5_hasLeft_15 : decode cX5_hasLeft 15 = .ok (.iload_n 3, 1) := by decide +kernel
theorem dX5_hasLeft_16 : decode cX5_hasLeft 16 = .ok (.if_icmp .ge 5, 3) := by decide +kernel
theorem dX5_hasLeft_19 : decode cX5_hasLeft 19 = .ok (.iconst 0, 1) := by decide +kernel
theorem dX5_hasLeft_20 : decode cX5_hasLeft 20 = .ok (.ireturn, 1) := by decide +kernel
theorem dX5_hasLeft_21 : decode cX5_hasLeft 21 = .ok (.iinc 4 1, 3) := by decide +kernel
theorem dX5_hasLeft_24 : decode cX5_hasLeft 24 = .ok (.goto (-21), 3) := by decide +kernel
theorem dX5_hasLeft_27 : decode cX5_hasLeft 27 = .ok (.iconst 1, 1) := by decide +kernel
theorem dX5_hasLeft_28 : decode cX5_hasLeft 28 = .ok (.ireturn, 1) := by decide +kernel
set_option maxRecDepth 20000 in
theorem ggX5_deniedOn_X5_bookedOn : GoodIn wsX5_deniedOn wsX5_bookedOn := goodIn_r _ [9, 10, 11, 12, 13, 8, 14, 15, 16, 17, 18, 19, 20, 21, 22, 23, 29, 30, 31, 32, 33, 34, 35, 36, 37, 38, 39, 40, 41, 42, 43, 44, 45, 46, 47] (by decide +kernel) (by decide +kernel)
set_option maxRecDepth 20000 in
theorem gX5_deniedOn_X5_bookedOn : GoodIn wsX5_deniedOn (wsV RX5 191 RX5 yX5_bookedOn wsX5_bookedOn) := goodIn_app (goodIn_of _ (by decide +kernel)) ggX5_deniedOn_X5_bookedOn
set_option maxRecDepth 20000 in
theorem ggX5_deniedOn_X5_seatsOf : GoodIn wsX5_deniedOn wsX5_seatsOf := goodIn_r _ [27, 28, 29, 30, 31, 32, 33, 34, 35, 36, 37, 38, 39, 40, 41, 42] (by decide +kernel) (by decide +kernel)
set_option maxRecDepth 20000 in
theorem gX5_deniedOn_X5_seatsOf : GoodIn wsX5_deniedOn (wsV RX5 225 RX5 yX5_seatsOf wsX5_seatsOf) := goodIn_app (goodIn_of _ (by decide +kernel)) ggX5_deniedOn_X5_seatsOf
theorem dX5_deniedOn_0 : decode cX5_deniedOn 0 = .ok (.aload_n 0, 1) := by decide +kernel
theorem dX5_deniedOn_1 : decode cX5_deniedOn 1 = .ok (.iload_n 1, 1) := by decide +kernel
theorem dX5_deniedOn_2 : decode cX5_deniedOn 2 = .ok (.invokevirtual 191, 3) := by decide +kernel
theorem dX5_deniedOn_5 : decode cX5_deniedOn 5 = .ok (.iload_n 2, 1) := by decide +kernel
theorem dX5_deniedOn_6 : decode cX5_deniedOn 6 = .ok (.imul, 1) := by decide +kernel
theorem dX5_deniedOn_7 : decode cX5_deniedOn 7 = .ok (.bipush 100, 2) := by decide +kernel
theorem dX5_deniedOn_9 : decode cX5_deniedOn 9 = .ok (.iadd, 1) := by decide +kernel
theorem dX5_deniedOn_10 : decode cX5_deniedOn 10 = .ok (.iconst 1, 1) := by decide +kernel
theorem dX5_deniedOn_11 : decode cX5_deniedOn 11 = .ok (.isub, 1) := by decide +kernel
theorem dX5_deniedOn_12 : decode cX5_deniedOn 12 = .ok (.bipush 100, 2) := by decide +kernel
theorem dX5_deniedOn_14 : decode cX5_deniedOn 14 = .ok (.idiv, 1) := by decide +kernel
theorem dX5_deniedOn_15 : decode cX5_deniedOn 15 = .ok (.istore_n 3, 1) := by decide +kernel
theorem dX5_deniedOn_16 : decode cX5_deniedOn 16 = .ok (.iconst 0, 1) := by decide +kernel
theorem dX5_deniedOn_17 : decode cX5_deniedOn 17 = .ok (.iload_n 3, 1) := by decide +kernel
theorem dX5_deniedOn_18 : decode cX5_deniedOn 18 = .ok (.aload_n 0, 1) := by decide +kernel
theorem dX5_deniedOn_19 : decode cX5_deniedOn 19 = .ok (.iload_n 1, 1) := by decide +kernel
theorem dX5_deniedOn_20 : decode cX5_deniedOn 20 = .ok (.invokevirtual 225, 3) := by decide +kernel
theorem dX5_deniedOn_23 : decode cX5_deniedOn 23 = .ok (.isub, 1) := by decide +kernel
theorem dX5_deniedOn_24 : decode cX5_deniedOn 24 = .ok (.invokestatic 231, 3) := by decide +kernel
theorem dX5_deniedOn_27 : decode cX5_deniedOn 27 = .ok (.ireturn, 1) := by decide +kernel
theorem dX5_productAt_0 : decode cX5_productAt 0 = .ok (.iload_n 1, 1) := by decide +kernel
theorem dX5_productAt_1 : decode cX5_productAt 1 = .ok (.ifCond .lt 21, 3) := by decide +kernel
theorem dX5_productAt_4 : decode cX5_productAt 4 = .ok (.iload_n 1, 1) := by decide +kernel
theorem dX5_productAt_5 : decode cX5_productAt 5 = .ok (.aload_n 0, 1) := by decide +kernel
theorem dX5_productAt_6 : decode cX5_productAt 6 = .ok (.getfield 15, 3) := by decide +kernel
theorem dX5_productAt_9 : decode cX5_productAt 9 = .ok (.arraylength, 1) := by decide +kernel
theorem dX5_productAt_10 : decode cX5_productAt 10 = .ok (.if_icmp .ge 12, 3) := by decide +kernel
theorem dX5_productAt_13 : decode cX5_productAt 13 = .ok (.aload_n 0, 1) := by decide +kernel
theorem dX5_productAt_14 : decode cX5_productAt 14 = .ok (.getfield 15, 3) := by decide +kernel
theorem dX5_productAt_17 : decode cX5_productAt 17 = .ok (.iload_n 1, 1) := by decide +kernel
theorem dX5_productAt_18 : decode cX5_productAt 18 = .ok (.aaload, 1) := by decide +kernel
theorem dX5_productAt_19 : decode cX5_productAt 19 = .ok (.goto 4, 3) := by decide +kernel
theorem dX5_productAt_22 : decode cX5_productAt 22 = .ok (.aconst_null, 1) := by decide +kernel
theorem dX5_productAt_23 : decode cX5_productAt 23 = .ok (.areturn, 1) := by decide +kernel
theorem dX5_isOffered_0 : decode cX5_isOffered 0 = .ok (.aload_n 0, 1) := by decide +kernel
theorem dX5_isOffered_1 : decode cX5_isOffered 1 = .ok (.getfield 15, 3) := by decide +kernel
theorem dX5_isOffered_4 : decode cX5_isOffered 4 = .ok (.astore 4, 2) := by decide +kernel
theorem dX5_isOffered_6 : decode cX5_isOffered 6 = .ok (.aload 4, 2) := by decide +kernel
theorem dX5_isOffered_8 : decode cX5_isOffered 8 = .ok (.arraylength, 1) := by decide +kernel
theorem dX5_isOffered_9 : decode cX5_isOffered 9 = .ok (.istore 5, 2) := by decide +kernel
theorem dX5_isOffered_11 : decode cX5_isOffered 11 = .ok (.iconst 0, 1) := by decide +kernel
theorem dX5_isOffered_12 : decode cX5_isOffered 12 = .ok (.istore 6, 2) := by decide +kernel
theorem dX5_isOffered_14 : decode cX5_isOffered 14 = .ok (.iload 6, 2) := by decide +kernel
theorem dX5_isOffered_16 : decode cX5_isOffered 16 = .ok (.iload 5, 2) := by decide +kernel
theorem dX5_isOffered_18 : decode cX5_isOffered 18 = .ok (.if_icmp .ge 50, 3) := by decide +kernel
theorem dX5_isOffered_21 : decode cX5_isOffered 21 = .ok (.aload 4, 2) := by decide +kernel
theorem dX5_isOffered_23 : decode cX5_isOffered 23 = .ok (.iload 6, 2) := by decide +kernel
theorem dX5_isOffered_25 : decode cX5_isOffered 25 = .ok (.aaload, 1) := by decide +kernel
theorem dX5_isOffered_26 : decode cX5_isOffered 26 = .ok (.astore 7, 2) := by decide +kernel
theorem dX5_isOffered_28 : decode cX5_isOffered 28 = .ok (.aload 7, 2) := by decide +kernel
theorem dX5_isOffered_30 : decode cX5_isOffered 30 = .ok (.ifnull 32, 3) := by decide +kernel
theorem dX5_isOffered_33 : decode cX5_isOffered 33 = .ok (.aload 7, 2) := by decide +kernel
theorem dX5_isOffered_35 : decode cX5_isOffered 35 = .ok (.getfield 141, 3) := by decide +kernel
theorem dX5_isOffered_38 : decode cX5_isOffered 38 = .ok (.iload_n 1, 1) := by decide +kernel
theorem dX5_isOffered_39 : decode cX5_isOffered 39 = .ok (.if_icmp .ne 23, 3) := by decide +kernel
theorem dX5_isOffered_42 : decode cX5_isOffered 42 = .ok (.aload 7, 2) := by decide +kernel
theorem dX5_isOffered_44 : decode cX5_isOffered 44 = .ok (.getfield 144, 3) := by decide +kernel
theorem dX5_isOffered_47 : decode cX5_isOffered 47 = .ok (.iload_n 2, 1) := by decide +kernel
theorem dX5_isOffered_48 : decode cX5_isOffered 48 = .ok (.if_icmp .ne 14, 3) := by decide +kernel
theorem dX5_isOffered_51 : decode cX5_isOffered 51 = .ok (.aload 7, 2) := by decide +kernel
theorem dX5_isOffered_53 : decode cX5_isOffered 53 = .ok (.getfield 138, 3) := by decide +kernel
theorem dX5_isOffered_56 : decode cX5_isOffered 56 = .ok (.iload_n 3, 1) := by decide +kernel
theorem dX5_isOffered_57 : decode cX5_isOffered 57 = .ok (.if_icmp .ne 5, 3) := by decide +kernel
theorem dX5_isOffered_60 : decode cX5_isOffered 60 = .ok (.iconst 1, 1) := by decide +kernel
theorem dX5_isOffered_61 : decode cX5_isOffered 61 = .ok (.ireturn, 1) := by decide +kernel
theorem dX5_isOffered_62 : decode cX5_isOffered 62 = .ok (.iinc 6 1, 3) := by decide +kernel
theorem dX5_isOffered_65 : decode cX5_isOffered 65 = .ok (.goto (-51), 3) := by decide +kernel
theorem dX5_isOffered_68 : decode cX5_isOffered 68 = .ok (.iconst 0, 1) := by decide +kernel
theorem dX5_isOffered_69 : decode cX5_isOffered 69 = .ok (.ireturn, 1) := by decide +kernel
theorem dX5_offer_0 : decode cX5_offer 0 = .ok (.aload_n 0, 1) := by decide +kernel
theorem dX5_offer_1 : decode cX5_offer 1 = .ok (.getfield 42, 3) := by decide +kernel
theorem dX5_offer_4 : decode cX5_offer 4 = .ok (.istore_n 2, 1) := by decide +kernel
theorem dX5_offer_5 : decode cX5_offer 5 = .ok (.iload_n 2, 1) := by decide +kernel
theorem dX5_offer_6 : decode cX5_offer 6 = .ok (.ifCond .lt 21, 3) := by decide +kernel
theorem dX5_offer_9 : decode cX5_offer 9 = .ok (.iload_n 2, 1) := by decide +kernel
theorem dX5_offer_10 : decode cX5_offer 10 = .ok (.aload_n 0, 1) := by decide +kernel
theorem dX5_offer_11 : decode cX5_offer 11 = .ok (.getfield 15, 3) := by decide +kernel
theorem dX5_offer_14 : decode cX5_offer 14 = .ok (.arraylength, 1) := by decide +kernel
theorem dX5_offer_15 : decode cX5_offer 15 = .ok (.if_icmp .ge 12, 3) := by decide +kernel
theorem dX5_offer_18 : decode cX5_offer 18 = .ok (.iload_n 2, 1) := by decide +kernel
theorem dX5_offer_19 : decode cX5_offer 19 = .ok (.aload_n 0, 1) := by decide +kernel
theorem dX5_offer_20 : decode cX5_offer 20 = .ok (.getfield 19, 3) := by decide +kernel
theorem dX5_offer_23 : decode cX5_offer 23 = .ok (.arraylength, 1) := by decide +kernel
theorem dX5_offer_24 : decode cX5_offer 24 = .ok (.if_icmp .lt 4, 3) := by decide +kernel
theorem dX5_offer_27 : decode cX5_offer 27 = .ok (.return_, 1) := by decide +kernel
theorem dX5_offer_28 : decode cX5_offer 28 = .ok (.aload_n 0, 1) := by decide +kernel
theorem dX5_offer_29 : decode cX5_offer 29 = .ok (.getfield 15, 3) := by decide +kernel
theorem dX5_offer_32 : decode cX5_offer 32 = .ok (.iload_n 2, 1) := by decide +kernel
theorem dX5_offer_33 : decode cX5_offer 33 = .ok (.aload_n 1, 1) := by decide +kernel
theorem dX5_offer_34 : decode cX5_offer 34 = .ok (.aastore, 1) := by decide +kernel
theorem dX5_offer_35 : decode cX5_offer 35 = .ok (.aload_n 0, 1) := by decide +kernel
theorem dX5_offer_36 : decode cX5_offer 36 = .ok (.dup, 1) := by decide +kernel
theorem dX5_offer_37 : decode cX5_offer 37 = .ok (.getfield 42, 3) := by decide +kernel
theorem dX5_offer_40 : decode cX5_offer 40 = .ok (.iconst 1, 1) := by decide +kernel
theorem dX5_offer_41 : decode cX5_offer 41 = .ok (.iadd, 1) := by decide +kernel
theorem dX5_offer_42 : decode cX5_offer 42 = .ok (.putfield 42, 3) := by decide +kernel
theorem dX5_offer_45 : decode cX5_offer 45 = .ok (.iload_n 2, 1) := by decide +kernel
theorem dX5_offer_46 : decode cX5_offer 46 = .ok (.ifCond .le 52, 3) := by decide +kernel
theorem dX5_offer_49 : decode cX5_offer 49 = .ok (.aload_n 0, 1) := by decide +kernel
theorem dX5_offer_50 : decode cX5_offer 50 = .ok (.getfield 19, 3) := by decide +kernel
theorem dX5_offer_53 : decode cX5_offer 53 = .ok (.iload_n 2, 1) := by decide +kernel
theorem dX5_offer_54 : decode cX5_offer 54 = .ok (.iconst 1, 1) := by decide +kernel
theorem dX5_offer_55 : decode cX5_offer 55 = .ok (.isub, 1) := by decide +kernel
theorem dX5_offer_56 : decode cX5_offer 56 = .ok (.aaload, 1) := by decide +kernel
theorem dX5_offer_57 : decode cX5_offer 57 = .ok (.ifnull 41, 3) := by decide +kernel
theorem dX5_offer_60 : decode cX5_offer 60 = .ok (.aload_n 0, 1) := by decide +kernel
theorem dX5_offer_61 : decode cX5_offer 61 = .ok (.getfield 19, 3) := by decide +kernel
theorem dX5_offer_64 : decode cX5_offer 64 = .ok (.iload_n 2, 1) := by decide +kernel
theorem dX5_offer_65 : decode cX5_offer 65 = .ok (.iconst 1, 1) := by decide +kernel
theorem dX5_offer_66 : decode cX5_offer 66 = .ok (.isub, 1) := by decide +kernel
theorem dX5_offer_67 : decode cX5_offer 67 = .ok (.aaload, 1) := by decide +kernel
theorem dX5_offer_68 : decode cX5_offer 68 = .ok (.getfield 138, 3) := by decide +kernel
theorem dX5_offer_71 : decode cX5_offer 71 = .ok (.aload_n 1, 1) := by decide +kernel
theorem dX5_offer_72 : decode cX5_offer 72 = .ok (.getfield 138, 3) := by decide +kernel
theorem dX5_offer_75 : decode cX5_offer 75 = .ok (.if_icmp .ge 23, 3) := by decide +kernel
theorem dX5_offer_78 : decode cX5_offer 78 = .ok (.aload_n 0, 1) := by decide +kernel
theorem dX5_offer_79 : decode cX5_offer 79 = .ok (.getfield 19, 3) := by decide +kernel
theorem dX5_offer_82 : decode cX5_offer 82 = .ok (.iload_n 2, 1) := by decide +kernel
theorem dX5_offer_83 : decode cX5_offer 83 = .ok (.aload_n 0, 1) := by decide +kernel
theorem dX5_offer_84 : decode cX5_offer 84 = .ok (.getfield 19, 3) := by decide +kernel
theorem dX5_offer_87 : decode cX5_offer 87 = .ok (.iload_n 2, 1) := by decide +kernel
theorem dX5_offer_88 : decode cX5_offer 88 = .ok (.iconst 1, 1) := by decide +kernel
theorem dX5_offer_89 : decode cX5_offer 89 = .ok (.isub, 1) := by decide +kernel
theorem dX5_offer_90 : decode cX5_offer 90 = .ok (.aaload, 1) := by decide +kernel
theorem dX5_offer_91 : decode cX5_offer 91 = .ok (.aastore, 1) := by decide +kernel
theorem dX5_offer_92 : decode cX5_offer 92 = .ok (.iinc 2 (-1), 3) := by decide +kernel
theorem dX5_offer_95 : decode cX5_offer 95 = .ok (.goto (-50), 3) := by decide +kernel
theorem dX5_offer_98 : decode cX5_offer 98 = .ok (.aload_n 0, 1) := by decide +kernel
theorem dX5_offer_99 : decode cX5_offer 99 = .ok (.getfield 19, 3) := by decide +kernel
theorem dX5_offer_102 : decode cX5_offer 102 = .ok (.iload_n 2, 1) := by decide +kernel
theorem dX5_offer_103 : decode cX5_offer 103 = .ok (.aload_n 1, 1) := by decide +kernel
theorem dX5_offer_104 : decode cX5_offer 104 = .ok (.aastore, 1) := by decide +kernel
theorem dX5_offer_105 : decode cX5_offer 105 = .ok (.return_, 1) := by decide +kernel
set_option maxRecDepth 20000 in
theorem ggX5_protectedOn_X2_covers : GoodIn wsX5_protectedOn wsX2_covers := goodIn_r _ [6, 7, 8, 28, 29, 30, 31, 32, 33, 34] (by decide +kernel) (by decide +kernel)
set_option maxRecDepth 20000 in
theorem gX5_protectedOn_X2_covers_n236 : GoodIn wsX5_protectedOn (wsX2_covers) := ggX5_protectedOn_X2_covers
set_option maxRecDepth 20000 in
theorem ggX5_protectedOn_X2_protectedAgainst : GoodIn wsX5_protectedOn wsX2_protectedAgainst := goodIn_r _ [11, 12, 13, 28, 29, 30, 31, 32, 33, 34] (by decide +kernel) (by decide +kernel)
set_option maxRecDepth 20000 in
theorem gX5_protectedOn_X2_protectedAgainst_n239 : GoodIn wsX5_protectedOn (wsX2_protectedAgainst) := ggX5_protectedOn_X2_protectedAgainst
theorem dX5_protectedOn_0 : decode cX5_protectedOn 0 = .ok (.iconst 0, 1) := by decide +kernel
theorem dX5_protectedOn_1 : decode cX5_protectedOn 1 = .ok (.istore_n 3, 1) := by decide +kernel
theorem dX5_protectedOn_2 : decode cX5_protectedOn 2 = .ok (.aload_n 0, 1) := by decide +kernel
theorem dX5_protectedOn_3 : decode cX5_protectedOn 3 = .ok (.getfield 15, 3) := by decide +kernel
theorem dX5_protectedOn_6 : decode cX5_protectedOn 6 = .ok (.astore 4, 2) := by decide +kernel
theorem dX5_protectedOn_8 : decode cX5_protectedOn 8 = .ok (.aload 4, 2) := by decide +kernel
theorem dX5_protectedOn_10 : decode cX5_protectedOn 10 = .ok (.arraylength, 1) := by decide +kernel
theorem dX5_protectedOn_11 : decode cX5_protectedOn 11 = .ok (.istore 5, 2) := by decide +kernel
theorem dX5_protectedOn_13 : decode cX5_protectedOn 13 = .ok (.iconst 0, 1) := by decide +kernel
theorem dX5_protectedOn_14 : decode cX5_protectedOn 14 = .ok (.istore 6, 2) := by decide +kernel
theorem dX5_protectedOn_16 : decode cX5_protectedOn 16 = .ok (.iload 6, 2) := by decide +kernel
theorem dX5_protectedOn_18 : decode cX5_protectedOn 18 = .ok (.iload 5, 2) := by decide +kernel
theorem dX5_protectedOn_20 : decode cX5_protectedOn 20 = .ok (.if_icmp .ge 52, 3) := by decide +kernel
theorem dX5_protectedOn_23 : decode cX5_protectedOn 23 = .ok (.aload 4, 2) := by decide +kernel
theorem dX5_protectedOn_25 : decode cX5_protectedOn 25 = .ok (.iload 6, 2) := by decide +kernel
theorem dX5_protectedOn_27 : decode cX5_protectedOn 27 = .ok (.aaload, 1) := by decide +kernel
theorem dX5_protectedOn_28 : decode cX5_protectedOn 28 = .ok (.astore 7, 2) := by decide +kernel
theorem dX5_protectedOn_30 : decode cX5_protectedOn 30 = .ok (.aload 7, 2) := by decide +kernel
theorem dX5_protectedOn_32 : decode cX5_protectedOn 32 = .ok (.ifnull 34, 3) := by decide +kernel
theorem dX5_protectedOn_35 : decode cX5_protectedOn 35 = .ok (.aload 7, 2) := by decide +kernel
theorem dX5_protectedOn_37 : decode cX5_protectedOn 37 = .ok (.iload_n 1, 1) := by decide +kernel
theorem dX5_protectedOn_38 : decode cX5_protectedOn 38 = .ok (.invokevirtual 236, 3) := by decide +kernel
theorem dX5_protectedOn_41 : decode cX5_protectedOn 41 = .ok (.ifCond .eq 25, 3) := by decide +kernel
theorem dX5_protectedOn_44 : decode cX5_protectedOn 44 = .ok (.aload 7, 2) := by decide +kernel
theorem dX5_protectedOn_46 : decode cX5_protectedOn 46 = .ok (.getfield 138, 3) := by decide +kernel
theorem dX5_protectedOn_49 : decode cX5_protectedOn 49 = .ok (.iload_n 2, 1) := by decide +kernel
theorem dX5_protectedOn_50 : decode cX5_protectedOn 50 = .ok (.if_icmp .le 16, 3) := by decide +kernel
theorem dX5_protectedOn_53 : decode cX5_protectedOn 53 = .ok (.iload_n 3, 1) := by decide +kernel
theorem dX5_protectedOn_54 : decode cX5_protectedOn 54 = .ok (.aload 7, 2) := by decide +kernel
theorem dX5_protectedOn_56 : decode cX5_protectedOn 56 = .ok (.iload_n 2, 1) := by decide +kernel
theorem dX5_protectedOn_57 : decode cX5_protectedOn 57 = .ok (.aload_n 0, 1) := by decide +kernel
theorem dX5_protectedOn_58 : decode cX5_protectedOn 58 = .ok (.getfield 49, 3) := by decide +kernel
theorem dX5_protectedOn_61 : decode cX5_protectedOn 61 = .ok (.invokevirtual 239, 3) := by decide +kernel
theorem dX5_protectedOn_64 : decode cX5_protectedOn 64 = .ok (.iadd, 1) := by decide +kernel
theorem dX5_protectedOn_65 : decode cX5_protectedOn 65 = .ok (.istore_n 3, 1) := by decide +kernel
theorem dX5_protectedOn_66 : decode cX5_protectedOn 66 = .ok (.iinc 6 1, 3) := by decide +kernel
theorem dX5_protectedOn_69 : decode cX5_protectedOn 69 = .ok (.goto (-53), 3) := by decide +kernel
theorem dX5_protectedOn_72 : decode cX5_protectedOn 72 = .ok (.iload_n 3, 1) := by decide +kernel
theorem dX5_protectedOn_73 : decode cX5_protectedOn 73 = .ok (.ireturn, 1) := by decide +kernel
set_option maxRecDepth 20000 in
theorem ggX5_learn_X2_learn : GoodIn wsX5_learn wsX2_learn := goodIn_r _ [6, 7, 8, 9, 10, 11, 12, 13, 14, 29, 30, 31, 32, 33, 34, 35] (by decide +kernel) (by decide +kernel)
set_option maxRecDepth 20000 in
theorem gX5_learn_X2_learn_n242 : GoodIn wsX5_learn (wsX2_learn) := ggX5_learn_X2_learn
theorem dX5_learn_0 : decode cX5_learn 0 = .ok (.aload_n 0, 1) := by decide +kernel
theorem dX5_learn_1 : decode cX5_learn 1 = .ok (.dup, 1) := by decide +kernel
theorem dX5_learn_2 : decode cX5_learn 2 = .ok (.getfield 49, 3) := by decide +kernel
theorem dX5_learn_5 : decode cX5_learn 5 = .ok (.iconst 1, 1) := by decide +kernel
theorem dX5_learn_6 : decode cX5_learn 6 = .ok (.iadd, 1) := by decide +kernel
theorem dX5_learn_7 : decode cX5_learn 7 = .ok (.putfield 49, 3) := by decide +kernel
theorem dX5_learn_10 : decode cX5_learn 10 = .ok (.aload_n 0, 1) := by decide +kernel
theorem dX5_learn_11 : decode cX5_learn 11 = .ok (.getfield 15, 3) := by decide +kernel
theorem dX5_learn_14 : decode cX5_learn 14 = .ok (.astore_n 1, 1) := by decide +kernel
theorem dX5_learn_15 : decode cX5_learn 15 = .ok (.aload_n 1, 1) := by decide +kernel
theorem dX5_learn_16 : decode cX5_learn 16 = .ok (.arraylength, 1) := by decide +kernel
theorem dX5_learn_17 : decode cX5_learn 17 = .ok (.istore_n 2, 1) := by decide +kernel
theorem dX5_learn_18 : decode cX5_learn 18 = .ok (.iconst 0, 1) := by decide +kernel
theorem dX5_learn_19 : decode cX5_learn 19 = .ok (.istore_n 3, 1) := by decide +kernel
theorem dX5_learn_20 : decode cX5_learn 20 = .ok (.iload_n 3, 1) := by decide +kernel
theorem dX5_learn_21 : decode cX5_learn 21 = .ok (.iload_n 2, 1) := by decide +kernel
theorem dX5_learn_22 : decode cX5_learn 22 = .ok (.if_icmp .ge 28, 3) := by decide +kernel
theorem dX5_learn_25 : decode cX5_learn 25 = .ok (.aload_n 1, 1) := by decide +kernel
theorem dX5_learn_26 : decode cX5_learn 26 = .ok (.iload_n 3, 1) := by decide +kernel
theorem dX5_learn_27 : decode cX5_learn 27 = .ok (.aaload, 1) := by decide +kernel
theorem dX5_learn_28 : decode cX5_learn 28 = .ok (.astore 4, 2) := by decide +kernel
theorem dX5_learn_30 : decode cX5_learn 30 = .ok (.aload 4, 2) := by decide +kernel
theorem dX5_learn_32 : decode cX5_learn 32 = .ok (.ifnull 12, 3) := by decide +kernel
theorem dX5_learn_35 : decode cX5_learn 35 = .ok (.aload 4, 2) := by decide +kernel
theorem dX5_learn_37 : decode cX5_learn 37 = .ok (.aload_n 0, 1) := by decide +kernel
theorem dX5_learn_38 : decode cX5_learn 38 = .ok (.getfield 49, 3) := by decide +kernel
theorem dX5_learn_41 : decode cX5_learn 41 = .ok (.invokevirtual 242, 3) := by decide +kernel
theorem dX5_learn_44 : decode cX5_learn 44 = .ok (.iinc 3 1, 3) := by decide +kernel
theorem dX5_learn_47 : decode cX5_learn 47 = .ok (.goto (-27), 3) := by decide +kernel
theorem dX5_learn_50 : decode cX5_learn 50 = .ok (.return_, 1) := by decide +kernel
set_option maxRecDepth 20000 in
theorem ggX5_isFull_X5_bookedOn : GoodIn wsX5_isFull wsX5_bookedOn := goodIn_r _ [5, 6, 7, 8, 9, 4, 10, 11, 12, 13, 14, 15, 16, 17, 18, 19, 37, 38, 39, 40, 41, 42, 43, 44, 45, 46, 47, 48, 49, 50, 51, 52, 53, 54, 55] (by decide +kernel) (by decide +kernel)
set_option maxRecDepth 20000 in
theorem gX5_isFull_X5_bookedOn : GoodIn wsX5_isFull (wsV RX5 191 RX5 yX5_bookedOn wsX5_bookedOn) := goodIn_app (goodIn_of _ (by decide +kernel)) ggX5_isFull_X5_bookedOn
set_option maxRecDepth 20000 in
theorem ggX5_isFull_X5_authorisedOn : GoodIn wsX5_isFull wsX5_authorisedOn := goodIn_r _ [23, 24, 25, 26, 27, 4, 28, 29, 37, 38, 39, 40, 41, 42, 43, 44, 45, 46, 47, 48, 49, 50] (by decide +kernel) (by decide +kernel)
set_option maxRecDepth 20000 in
theorem gX5_isFull_X5_authorisedOn : GoodIn wsX5_isFull (wsV RX5 194 RX5 yX5_authorisedOn wsX5_authorisedOn) := goodIn_app (goodIn_of _ (by decide +kernel)) ggX5_isFull_X5_authorisedOn
theorem dX5_isFull_0 : decode cX5_isFull 0 = .ok (.aload_n 1, 1) := by decide +kernel
theorem dX5_isFull_1 : decode cX5_isFull 1 = .ok (.getfield 141, 3) := by decide +kernel
theorem dX5_isFull_4 : decode cX5_isFull 4 = .ok (.istore_n 2, 1) := by decide +kernel
theorem dX5_isFull_5 : decode cX5_isFull 5 = .ok (.iload_n 2, 1) := by decide +kernel
theorem dX5_isFull_6 : decode cX5_isFull 6 = .ok (.aload_n 1, 1) := by decide +kernel
theorem dX5_isFull_7 : decode cX5_isFull 7 = .ok (.getfield 144, 3) := by decide +kernel
theorem dX5_isFull_10 : decode cX5_isFull 10 = .ok (.if_icmp .gt 24, 3) := by decide +kernel
theorem dX5_isFull_13 : decode cX5_isFull 13 = .ok (.aload_n 0, 1) := by decide +kernel
theorem dX5_isFull_14 : decode cX5_isFull 14 = .ok (.iload_n 2, 1) := by decide +kernel
theorem dX5_isFull_15 : decode cX5_isFull 15 = .ok (.invokevirtual 191, 3) := by decide +kernel
theorem dX5_isFull_18 : decode cX5_isFull 18 = .ok (.aload_n 0, 1) := by decide +kernel
theorem dX5_isFull_19 : decode cX5_isFull 19 = .ok (.iload_n 2, 1) := by decide +kernel
theorem dX5_isFull_20 : decode cX5_isFull 20 = .ok (.invokevirtual 194, 3) := by decide +kernel
theorem dX5_isFull_23 : decode cX5_isFull 23 = .ok (.if_icmp .lt 5, 3) := by decide +kernel
theorem dX5_isFull_26 : decode cX5_isFull 26 = .ok (.iconst 1, 1) := by decide +kernel
theorem dX5_isFull_27 : decode cX5_isFull 27 = .ok (.ireturn, 1) := by decide +kernel
theorem dX5_isFull_28 : decode cX5_isFull 28 = .ok (.iinc 2 1, 3) := by decide +kernel
theorem dX5_isFull_31 : decode cX5_isFull 31 = .ok (.goto (-26), 3) := by decide +kernel
theorem dX5_isFull_34 : decode cX5_isFull 34 = .ok (.iconst 0, 1) := by decide +kernel
theorem dX5_isFull_35 : decode cX5_isFull 35 = .ok (.ireturn, 1) := by decide +kernel
set_option maxRecDepth 20000 in
theorem ggX5_isProtected_X5_authorisedOn : GoodIn wsX5_isProtected wsX5_authorisedOn := goodIn_r _ [5, 6, 7, 8, 9, 4, 10, 11, 54, 55, 56, 57, 58, 59, 60, 61, 62, 63, 64, 65, 66, 67] (by decide +kernel) (by decide +kernel)
set_option maxRecDepth 20000 in
theorem gX5_isProtected_X5_authorisedOn : GoodIn wsX5_isProtected (wsV RX5 194 RX5 yX5_authorisedOn wsX5_authorisedOn) := goodIn_app (goodIn_of _ (by decide +kernel)) ggX5_isProtected_X5_authorisedOn
set_option maxRecDepth 20000 in
theorem ggX5_isProtected_X5_bookedOn : GoodIn wsX5_isProtected wsX5_bookedOn := goodIn_r _ [15, 16, 17, 18, 19, 4, 20, 21, 22, 23, 24, 25, 26, 27, 28, 29, 54, 55, 56, 57, 58, 59, 60, 61, 62, 63, 64, 65, 66, 67, 68, 69, 70, 71, 72] (by decide +kernel) (by decide +kernel)
set_option maxRecDepth 20000 in
theorem gX5_isProtected_X5_bookedOn : GoodIn wsX5_isProtected (wsV RX5 191 RX5 yX5_bookedOn wsX5_bookedOn) := goodIn_app (goodIn_of _ (by decide +kernel)) ggX5_isProtected_X5_bookedOn
set_option maxRecDepth 20000 in
theorem ggX5_isProtected_X5_protectedOn : GoodIn wsX5_isProtected wsX5_protectedOn := goodIn_r _ [33, 34, 35, 36, 37, 38, 39, 40, 41, 42, 43, 44, 45, 46, 54, 55, 56, 57, 58, 59, 60, 61, 62, 63, 64, 65, 66, 67, 47, 48, 49, 50, 51, 52, 53] (by decide +kernel) (by decide +kernel)
set_option maxRecDepth 20000 in
theorem gX5_isProtected_X5_protectedOn : GoodIn wsX5_isProtected (wsV RX5 199 RX5 yX5_protectedOn wsX5_protectedOn) := goodIn_app (goodIn_of _ (by decide +kernel)) ggX5_isProtected_X5_protectedOn
theorem dX5_isProtected_0 : decode cX5_isProtected 0 = .ok (.aload_n 1, 1) := by decide +kernel
theorem dX5_isProtected_1 : decode cX5_isProtected 1 = .ok (.getfield 141, 3) := by decide +kernel
theorem dX5_isProtected_4 : decode cX5_isProtected 4 = .ok (.istore_n 2, 1) := by decide +kernel
theorem dX5_isProtected_5 : decode cX5_isProtected 5 = .ok (.iload_n 2, 1) := by decide +kernel
theorem dX5_isProtected_6 : decode cX5_isProtected 6 = .ok (.aload_n 1, 1) := by decide +kernel
theorem dX5_isProtected_7 : decode cX5_isProtected 7 = .ok (.getfield 144, 3) := by decide +kernel
theorem dX5_isProtected_10 : decode cX5_isProtected 10 = .ok (.if_icmp .gt 35, 3) := by decide +kernel
theorem dX5_isProtected_13 : decode cX5_isProtected 13 = .ok (.aload_n 0, 1) := by decide +kernel
theorem dX5_isProtected_14 : decode cX5_isProtected 14 = .ok (.iload_n 2, 1) := by decide +kernel
theorem dX5_isProtected_15 : decode cX5_isProtected 15 = .ok (.invokevirtual 194, 3) := by decide +kernel
theorem dX5_isProtected_18 : decode cX5_isProtected 18 = .ok (.aload_n 0, 1) := by decide +kernel
theorem dX5_isProtected_19 : decode cX5_isProtected 19 = .ok (.iload_n 2, 1) := by decide +kernel
theorem dX5_isProtected_20 : decode cX5_isProtected 20 = .ok (.invokevirtual 191, 3) := by decide +kernel
theorem dX5_isProtected_23 : decode cX5_isProtected 23 = .ok (.isub, 1) := by decide +kernel
theorem dX5_isProtected_24 : decode cX5_isProtected 24 = .ok (.aload_n 0, 1) := by decide +kernel
theorem dX5_isProtected_25 : decode cX5_isProtected 25 = .ok (.iload_n 2, 1) := by decide +kernel
theorem dX5_isProtected_26 : decode cX5_isProtected 26 = .ok (.aload_n 1, 1) := by decide +kernel
theorem dX5_isProtected_27 : decode cX5_isProtected 27 = .ok (.getfield 138, 3) := by decide +kernel
theorem dX5_isProtected_30 : decode cX5_isProtected 30 = .ok (.invokevirtual 199, 3) := by decide +kernel
theorem dX5_isProtected_33 : decode cX5_isProtected 33 = .ok (.isub, 1) := by decide +kernel
theorem dX5_isProtected_34 : decode cX5_isProtected 34 = .ok (.ifCond .gt 5, 3) := by decide +kernel
theorem dX5_isProtected_37 : decode cX5_isProtected 37 = .ok (.iconst 1, 1) := by decide +kernel
theorem dX5_isProtected_38 : decode cX5_isProtected 38 = .ok (.ireturn, 1) := by decide +kernel
theorem dX5_isProtected_39 : decode cX5_isProtected 39 = .ok (.iinc 2 1, 3) := by decide +kernel
theorem dX5_isProtected_42 : decode cX5_isProtected 42 = .ok (.goto (-37), 3) := by decide +kernel
theorem dX5_isProtected_45 : decode cX5_isProtected 45 = .ok (.iconst 0, 1) := by decide +kernel
theorem dX5_isProtected_46 : decode cX5_isProtected 46 = .ok (.ireturn, 1) := by decide +kernel
theorem dX5_refuse_0 : decode cX5_refuse 0 = .ok (.iload_n 1, 1) := by decide +kernel
theorem dX5_refuse_1 : decode cX5_refuse 1 = .ok (.iconst (-1), 1) := by decide +kernel
theorem dX5_refuse_2 : decode cX5_refuse 2 = .ok (.if_icmp .ne 16, 3) := by decide +kernel
theorem dX5_refuse_5 : decode cX5_refuse 5 = .ok (.aload_n 0, 1) := by decide +kernel
theorem dX5_refuse_6 : decode cX5_refuse 6 = .ok (.dup, 1) := by decide +kernel
theorem dX5_refuse_7 : decode cX5_refuse 7 = .ok (.getfield 55, 3) := by decide +kernel
theorem dX5_refuse_10 : decode cX5_refuse 10 = .ok (.iconst 1, 1) := by decide +kernel
theorem dX5_refuse_11 : decode cX5_refuse 11 = .ok (.iadd, 1) := by decide +kernel
theorem dX5_refuse_12 : decode cX5_refuse 12 = .ok (.putfield 55, 3) := by decide +kernel
theorem dX5_refuse_15 : decode cX5_refuse 15 = .ok (.goto 32, 3) := by decide +kernel
theorem dX5_refuse_18 : decode cX5_refuse 18 = .ok (.iload_n 1, 1) := by decide +kernel
theorem dX5_refuse_19 : decode cX5_refuse 19 = .ok (.bipush (-2), 2) := by decide +kernel
theorem dX5_refuse_21 : decode cX5_refuse 21 = .ok (.if_icmp .ne 16, 3) := by decide +kernel
theorem dX5_refuse_24 : decode cX5_refuse 24 = .ok (.aload_n 0, 1) := by decide +kernel
theorem dX5_refuse_25 : decode cX5_refuse 25 = .ok (.dup, 1) := by decide +kernel
theorem dX5_refuse_26 : decode cX5_refuse 26 = .ok (.getfield 58, 3) := by decide +kernel
theorem dX5_refuse_29 : decode cX5_refuse 29 = .ok (.iconst 1, 1) := by decide +kernel
theorem dX5_refuse_30 : decode cX5_refuse 30 = .ok (.iadd, 1) := by decide +kernel
theorem dX5_refuse_31 : decode cX5_refuse 31 = .ok (.putfield 58, 3) := by decide +kernel
theorem dX5_refuse_34 : decode cX5_refuse 34 = .ok (.goto 13, 3) := by decide +kernel
theorem dX5_refuse_37 : decode cX5_refuse 37 = .ok (.aload_n 0, 1) := by decide +kernel
theorem dX5_refuse_38 : decode cX5_refuse 38 = .ok (.dup, 1) := by decide +kernel
theorem dX5_refuse_39 : decode cX5_refuse 39 = .ok (.getfield 61, 3) := by decide +kernel
theorem dX5_refuse_42 : decode cX5_refuse 42 = .ok (.iconst 1, 1) := by decide +kernel
theorem dX5_refuse_43 : decode cX5_refuse 43 = .ok (.iadd, 1) := by decide +kernel
theorem dX5_refuse_44 : decode cX5_refuse 44 = .ok (.putfield 61, 3) := by decide +kernel
theorem dX5_refuse_47 : decode cX5_refuse 47 = .ok (.iload_n 1, 1) := by decide +kernel
theorem dX5_refuse_48 : decode cX5_refuse 48 = .ok (.ireturn, 1) := by decide +kernel
theorem dX5_bookingAt_0 : decode cX5_bookingAt 0 = .ok (.iload_n 1, 1) := by decide +kernel
theorem dX5_bookingAt_1 : decode cX5_bookingAt 1 = .ok (.ifCond .lt 29, 3) := by decide +kernel
theorem dX5_bookingAt_4 : decode cX5_bookingAt 4 = .ok (.iload_n 1, 1) := by decide +kernel
theorem dX5_bookingAt_5 : decode cX5_bookingAt 5 = .ok (.aload_n 0, 1) := by decide +kernel
theorem dX5_bookingAt_6 : decode cX5_bookingAt 6 = .ok (.getfield 46, 3) := by decide +kernel
theorem dX5_bookingAt_9 : decode cX5_bookingAt 9 = .ok (.if_icmp .ge 21, 3) := by decide +kernel
theorem dX5_bookingAt_12 : decode cX5_bookingAt 12 = .ok (.iload_n 1, 1) := by decide +kernel
