theorem dL_asks_0 : decode cL_asks 0 = .ok (.iload_n 1, 1) := by decide +kernel
theorem dL_asks_1 : decode cL_asks 1 = .ok (.ifCond .ne 11, 3) := by decide +kernel
theorem dL_asks_4 : decode cL_asks 4 = .ok (.aload_n 0, 1) := by decide +kernel
theorem dL_asks_5 : decode cL_asks 5 = .ok (.iload_n 2, 1) := by decide +kernel
theorem dL_asks_6 : decode cL_asks 6 = .ok (.invokevirtual 51, 3) := by decide +kernel
theorem dL_asks_9 : decode cL_asks 9 = .ok (.goto 115, 3) := by decide +kernel
theorem dL_asks_12 : decode cL_asks 12 = .ok (.iload_n 1, 1) := by decide +kernel
theorem dL_asks_13 : decode cL_asks 13 = .ok (.iconst 1, 1) := by decide +kernel
theorem dL_asks_14 : decode cL_asks 14 = .ok (.if_icmp .ne 11, 3) := by decide +kernel
theorem dL_asks_17 : decode cL_asks 17 = .ok (.aload_n 0, 1) := by decide +kernel
theorem dL_asks_18 : decode cL_asks 18 = .ok (.iload_n 2, 1) := by decide +kernel
theorem dL_asks_19 : decode cL_asks 19 = .ok (.invokevirtual 54, 3) := by decide +kernel
theorem dL_asks_22 : decode cL_asks 22 = .ok (.goto 102, 3) := by decide +kernel
theorem dL_asks_25 : decode cL_asks 25 = .ok (.iload_n 1, 1) := by decide +kernel
theorem dL_asks_26 : decode cL_asks 26 = .ok (.iconst 2, 1) := by decide +kernel
theorem dL_asks_27 : decode cL_asks 27 = .ok (.if_icmp .ne 12, 3) := by decide +kernel
theorem dL_asks_30 : decode cL_asks 30 = .ok (.aload_n 0, 1) := by decide +kernel
theorem dL_asks_31 : decode cL_asks 31 = .ok (.iload_n 2, 1) := by decide +kernel
theorem dL_asks_32 : decode cL_asks 32 = .ok (.iload_n 3, 1) := by decide +kernel
theorem dL_asks_33 : decode cL_asks 33 = .ok (.invokevirtual 57, 3) := by decide +kernel
theorem dL_asks_36 : decode cL_asks 36 = .ok (.goto 88, 3) := by decide +kernel
theorem dL_asks_39 : decode cL_asks 39 = .ok (.iload_n 1, 1) := by decide +kernel
theorem dL_asks_40 : decode cL_asks 40 = .ok (.iconst 3, 1) := by decide +kernel
theorem dL_asks_41 : decode cL_asks 41 = .ok (.if_icmp .ne 11, 3) := by decide +kernel
theorem dL_asks_44 : decode cL_asks 44 = .ok (.aload_n 0, 1) := by decide +kernel
theorem dL_asks_45 : decode cL_asks 45 = .ok (.iload_n 2, 1) := by decide +kernel
theorem dL_asks_46 : decode cL_asks 46 = .ok (.invokevirtual 60, 3) := by decide +kernel
theorem dL_asks_49 : decode cL_asks 49 = .ok (.goto 75, 3) := by decide +kernel
theorem dL_asks_52 : decode cL_asks 52 = .ok (.iload_n 1, 1) := by decide +kernel
theorem dL_asks_53 : decode cL_asks 53 = .ok (.iconst 4, 1) := by decide +kernel
theorem dL_asks_54 : decode cL_asks 54 = .ok (.if_icmp .ne 14, 3) := by decide +kernel
theorem dL_asks_57 : decode cL_asks 57 = .ok (.aload_n 0, 1) := by decide +kernel
theorem dL_asks_58 : decode cL_asks 58 = .ok (.iload_n 2, 1) := by decide +kernel
theorem dL_asks_59 : decode cL_asks 59 = .ok (.iload_n 3, 1) := by decide +kernel
theorem dL_asks_60 : decode cL_asks 60 = .ok (.iload 4, 2) := by decide +kernel
theorem dL_asks_62 : decode cL_asks 62 = .ok (.invokevirtual 63, 3) := by decide +kernel
theorem dL_asks_65 : decode cL_asks 65 = .ok (.goto 59, 3) := by decide +kernel
theorem dL_asks_68 : decode cL_asks 68 = .ok (.iload_n 1, 1) := by decide +kernel
theorem dL_asks_69 : decode cL_asks 69 = .ok (.iconst 5, 1) := by decide +kernel
theorem dL_asks_70 : decode cL_asks 70 = .ok (.if_icmp .ne 11, 3) := by decide +kernel
theorem dL_asks_73 : decode cL_asks 73 = .ok (.aload_n 0, 1) := by decide +kernel
theorem dL_asks_74 : decode cL_asks 74 = .ok (.iload_n 2, 1) := by decide +kernel
theorem dL_asks_75 : decode cL_asks 75 = .ok (.invokevirtual 66, 3) := by decide +kernel
theorem dL_asks_78 : decode cL_asks 78 = .ok (.goto 46, 3) := by decide +kernel
theorem dL_asks_81 : decode cL_asks 81 = .ok (.iload_n 1, 1) := by decide +kernel
theorem dL_asks_82 : decode cL_asks 82 = .ok (.bipush 6, 2) := by decide +kernel
theorem dL_asks_84 : decode cL_asks 84 = .ok (.if_icmp .ne 11, 3) := by decide +kernel
theorem dL_asks_87 : decode cL_asks 87 = .ok (.aload_n 0, 1) := by decide +kernel
theorem dL_asks_88 : decode cL_asks 88 = .ok (.iload_n 2, 1) := by decide +kernel
theorem dL_asks_89 : decode cL_asks 89 = .ok (.invokevirtual 69, 3) := by decide +kernel
theorem dL_asks_92 : decode cL_asks 92 = .ok (.goto 32, 3) := by decide +kernel
theorem dL_asks_95 : decode cL_asks 95 = .ok (.iload_n 1, 1) := by decide +kernel
theorem dL_asks_96 : decode cL_asks 96 = .ok (.bipush 7, 2) := by decide +kernel
theorem dL_asks_98 : decode cL_asks 98 = .ok (.if_icmp .ne 11, 3) := by decide +kernel
theorem dL_asks_101 : decode cL_asks 101 = .ok (.aload_n 0, 1) := by decide +kernel
theorem dL_asks_102 : decode cL_asks 102 = .ok (.iload_n 2, 1) := by decide +kernel
theorem dL_asks_103 : decode cL_asks 103 = .ok (.invokevirtual 72, 3) := by decide +kernel
theorem dL_asks_106 : decode cL_asks 106 = .ok (.goto 18, 3) := by decide +kernel
theorem dL_asks_109 : decode cL_asks 109 = .ok (.aload_n 0, 1) := by decide +kernel
theorem dL_asks_110 : decode cL_asks 110 = .ok (.iload_n 2, 1) := by decide +kernel
theorem dL_asks_111 : decode cL_asks 111 = .ok (.invokevirtual 75, 3) := by decide +kernel
theorem dL_asks_114 : decode cL_asks 114 = .ok (.fconst 0, 1) := by decide +kernel
theorem dL_asks_115 : decode cL_asks 115 = .ok (.fcmp .l, 1) := by decide +kernel
theorem dL_asks_116 : decode cL_asks 116 = .ok (.ifCond .lt 7, 3) := by decide +kernel
theorem dL_asks_119 : decode cL_asks 119 = .ok (.iconst 1, 1) := by decide +kernel
theorem dL_asks_120 : decode cL_asks 120 = .ok (.goto 4, 3) := by decide +kernel
theorem dL_asks_123 : decode cL_asks 123 = .ok (.iconst 0, 1) := by decide +kernel
theorem dL_asks_124 : decode cL_asks 124 = .ok (.ireturn, 1) := by decide +kernel
theorem dL_asks_125 : decode cL_asks 125 = .ok (.astore 5, 2) := by decide +kernel
theorem dL_asks_127 : decode cL_asks 127 = .ok (.bipush (-30), 2) := by decide +kernel
theorem dL_asks_129 : decode cL_asks 129 = .ok (.ireturn, 1) := by decide +kernel
theorem dL_asks_130 : decode cL_asks 130 = .ok (.astore 5, 2) := by decide +kernel
theorem dL_asks_132 : decode cL_asks 132 = .ok (.bipush (-20), 2) := by decide +kernel
theorem dL_asks_134 : decode cL_asks 134 = .ok (.ireturn, 1) := by decide +kernel
theorem dL_booked_0 : decode cL_booked 0 = .ok (.iconst 0, 1) := by decide +kernel
theorem dL_booked_1 : decode cL_booked 1 = .ok (.istore_n 3, 1) := by decide +kernel
theorem dL_booked_2 : decode cL_booked 2 = .ok (.iconst 0, 1) := by decide +kernel
theorem dL_booked_3 : decode cL_booked 3 = .ok (.istore 4, 2) := by decide +kernel
theorem dL_booked_5 : decode cL_booked 5 = .ok (.iload 4, 2) := by decide +kernel
theorem dL_booked_7 : decode cL_booked 7 = .ok (.aload_n 1, 1) := by decide +kernel
theorem dL_booked_8 : decode cL_booked 8 = .ok (.bipush 6, 2) := by decide +kernel
theorem dL_booked_10 : decode cL_booked 10 = .ok (.iaload, 1) := by decide +kernel
theorem dL_booked_11 : decode cL_booked 11 = .ok (.if_icmp .ge 59, 3) := by decide +kernel
theorem dL_booked_14 : decode cL_booked 14 = .ok (.iload_n 3, 1) := by decide +kernel
theorem dL_booked_15 : decode cL_booked 15 = .ok (.aload_n 0, 1) := by decide +kernel
theorem dL_booked_16 : decode cL_booked 16 = .ok (.bipush 20, 2) := by decide +kernel
theorem dL_booked_18 : decode cL_booked 18 = .ok (.iload 4, 2) := by decide +kernel
theorem dL_booked_20 : decode cL_booked 20 = .ok (.iadd, 1) := by decide +kernel
theorem dL_booked_21 : decode cL_booked 21 = .ok (.iaload, 1) := by decide +kernel
theorem dL_booked_22 : decode cL_booked 22 = .ok (.ifCond .le 39, 3) := by decide +kernel
theorem dL_booked_25 : decode cL_booked 25 = .ok (.aload_n 0, 1) := by decide +kernel
theorem dL_booked_26 : decode cL_booked 26 = .ok (.iload 4, 2) := by decide +kernel
theorem dL_booked_28 : decode cL_booked 28 = .ok (.iaload, 1) := by decide +kernel
theorem dL_booked_29 : decode cL_booked 29 = .ok (.sipush 1000, 3) := by decide +kernel
theorem dL_booked_32 : decode cL_booked 32 = .ok (.idiv, 1) := by decide +kernel
theorem dL_booked_33 : decode cL_booked 33 = .ok (.iload_n 2, 1) := by decide +kernel
theorem dL_booked_34 : decode cL_booked 34 = .ok (.if_icmp .gt 27, 3) := by decide +kernel
theorem dL_booked_37 : decode cL_booked 37 = .ok (.aload_n 0, 1) := by decide +kernel
theorem dL_booked_38 : decode cL_booked 38 = .ok (.iload 4, 2) := by decide +kernel
theorem dL_booked_40 : decode cL_booked 40 = .ok (.iaload, 1) := by decide +kernel
theorem dL_booked_41 : decode cL_booked 41 = .ok (.bipush 100, 2) := by decide +kernel
theorem dL_booked_43 : decode cL_booked 43 = .ok (.idiv, 1) := by decide +kernel
theorem dL_booked_44 : decode cL_booked 44 = .ok (.bipush 10, 2) := by decide +kernel
theorem dL_booked_46 : decode cL_booked 46 = .ok (.irem, 1) := by decide +kernel
theorem dL_booked_47 : decode cL_booked 47 = .ok (.iload_n 2, 1) := by decide +kernel
theorem dL_booked_48 : decode cL_booked 48 = .ok (.if_icmp .lt 13, 3) := by decide +kernel
theorem dL_booked_51 : decode cL_booked 51 = .ok (.aload_n 0, 1) := by decide +kernel
theorem dL_booked_52 : decode cL_booked 52 = .ok (.iload 4, 2) := by decide +kernel
theorem dL_booked_54 : decode cL_booked 54 = .ok (.iaload, 1) := by decide +kernel
theorem dL_booked_55 : decode cL_booked 55 = .ok (.bipush 100, 2) := by decide +kernel
theorem dL_booked_57 : decode cL_booked 57 = .ok (.irem, 1) := by decide +kernel
theorem dL_booked_58 : decode cL_booked 58 = .ok (.goto 4, 3) := by decide +kernel
theorem dL_booked_61 : decode cL_booked 61 = .ok (.iconst 0, 1) := by decide +kernel
theorem dL_booked_62 : decode cL_booked 62 = .ok (.iadd, 1) := by decide +kernel
theorem dL_booked_63 : decode cL_booked 63 = .ok (.istore_n 3, 1) := by decide +kernel
theorem dL_booked_64 : decode cL_booked 64 = .ok (.iinc 4 1, 3) := by decide +kernel
theorem dL_booked_67 : decode cL_booked 67 = .ok (.goto (-62), 3) := by decide +kernel
theorem dL_booked_70 : decode cL_booked 70 = .ok (.iload_n 3, 1) := by decide +kernel
theorem dL_booked_71 : decode cL_booked 71 = .ok (.ireturn, 1) := by decide +kernel
theorem dL_authorised_0 : decode cL_authorised 0 = .ok (.aload_n 0, 1) := by decide +kernel
theorem dL_authorised_1 : decode cL_authorised 1 = .ok (.iload_n 1, 1) := by decide +kernel
theorem dL_authorised_2 : decode cL_authorised 2 = .ok (.iaload, 1) := by decide +kernel
theorem dL_authorised_3 : decode cL_authorised 3 = .ok (.aload_n 0, 1) := by decide +kernel
theorem dL_authorised_4 : decode cL_authorised 4 = .ok (.iload_n 1, 1) := by decide +kernel
theorem dL_authorised_5 : decode cL_authorised 5 = .ok (.iaload, 1) := by decide +kernel
theorem dL_authorised_6 : decode cL_authorised 6 = .ok (.bipush 100, 2) := by decide +kernel
theorem dL_authorised_8 : decode cL_authorised 8 = .ok (.aload_n 0, 1) := by decide +kernel
theorem dL_authorised_9 : decode cL_authorised 9 = .ok (.iconst 3, 1) := by decide +kernel
theorem dL_authorised_10 : decode cL_authorised 10 = .ok (.iaload, 1) := by decide +kernel
theorem dL_authorised_11 : decode cL_authorised 11 = .ok (.isub, 1) := by decide +kernel
theorem dL_authorised_12 : decode cL_authorised 12 = .ok (.imul, 1) := by decide +kernel
theorem dL_authorised_13 : decode cL_authorised 13 = .ok (.bipush 100, 2) := by decide +kernel
theorem dL_authorised_15 : decode cL_authorised 15 = .ok (.idiv, 1) := by decide +kernel
theorem dL_authorised_16 : decode cL_authorised 16 = .ok (.iadd, 1) := by decide +kernel
theorem dL_authorised_17 : decode cL_authorised 17 = .ok (.ireturn, 1) := by decide +kernel
theorem dL_guarded_0 : decode cL_guarded 0 = .ok (.iconst 0, 1) := by decide +kernel
theorem dL_guarded_1 : decode cL_guarded 1 = .ok (.istore 5, 2) := by decide +kernel
theorem dL_guarded_3 : decode cL_guarded 3 = .ok (.iconst 0, 1) := by decide +kernel
theorem dL_guarded_4 : decode cL_guarded 4 = .ok (.istore 6, 2) := by decide +kernel
theorem dL_guarded_6 : decode cL_guarded 6 = .ok (.iload 6, 2) := by decide +kernel
theorem dL_guarded_8 : decode cL_guarded 8 = .ok (.aload_n 2, 1) := by decide +kernel
theorem dL_guarded_9 : decode cL_guarded 9 = .ok (.iconst 4, 1) := by decide +kernel
theorem dL_guarded_10 : decode cL_guarded 10 = .ok (.iaload, 1) := by decide +kernel
theorem dL_guarded_11 : decode cL_guarded 11 = .ok (.if_icmp .ge 153, 3) := by decide +kernel
theorem dL_guarded_14 : decode cL_guarded 14 = .ok (.aload_n 2, 1) := by decide +kernel
theorem dL_guarded_15 : decode cL_guarded 15 = .ok (.iconst 5, 1) := by decide +kernel
theorem dL_guarded_16 : decode cL_guarded 16 = .ok (.iaload, 1) := by decide +kernel
theorem dL_guarded_17 : decode cL_guarded 17 = .ok (.ifCond .le 147, 3) := by decide +kernel
theorem dL_guarded_20 : decode cL_guarded 20 = .ok (.bipush 6, 2) := by decide +kernel
theorem dL_guarded_22 : decode cL_guarded 22 = .ok (.iload 6, 2) := by decide +kernel
theorem dL_guarded_24 : decode cL_guarded 24 = .ok (.imul, 1) := by decide +kernel
theorem dL_guarded_25 : decode cL_guarded 25 = .ok (.istore 7, 2) := by decide +kernel
theorem dL_guarded_27 : decode cL_guarded 27 = .ok (.iconst 0, 1) := by decide +kernel
theorem dL_guarded_28 : decode cL_guarded 28 = .ok (.istore 8, 2) := by decide +kernel
theorem dL_guarded_30 : decode cL_guarded 30 = .ok (.iconst 1, 1) := by decide +kernel
theorem dL_guarded_31 : decode cL_guarded 31 = .ok (.istore 9, 2) := by decide +kernel
theorem dL_guarded_33 : decode cL_guarded 33 = .ok (.iload 9, 2) := by decide +kernel
theorem dL_guarded_35 : decode cL_guarded 35 = .ok (.bipush 20, 2) := by decide +kernel
theorem dL_guarded_37 : decode cL_guarded 37 = .ok (.if_icmp .gt 81, 3) := by decide +kernel
theorem dL_guarded_40 : decode cL_guarded 40 = .ok (.iconst 0, 1) := by decide +kernel
theorem dL_guarded_41 : decode cL_guarded 41 = .ok (.istore 10, 2) := by decide +kernel
theorem dL_guarded_43 : decode cL_guarded 43 = .ok (.iconst 0, 1) := by decide +kernel
theorem dL_guarded_44 : decode cL_guarded 44 = .ok (.istore 11, 2) := by decide +kernel
theorem dL_guarded_46 : decode cL_guarded 46 = .ok (.iload 11, 2) := by decide +kernel
theorem dL_guarded_48 : decode cL_guarded 48 = .ok (.aload_n 2, 1) := by decide +kernel
theorem dL_guarded_49 : decode cL_guarded 49 = .ok (.iconst 5, 1) := by decide +kernel
theorem dL_guarded_50 : decode cL_guarded 50 = .ok (.iaload, 1) := by decide +kernel
theorem dL_guarded_51 : decode cL_guarded 51 = .ok (.if_icmp .ge 34, 3) := by decide +kernel
theorem dL_guarded_54 : decode cL_guarded 54 = .ok (.iload 10, 2) := by decide +kernel
theorem dL_guarded_56 : decode cL_guarded 56 = .ok (.aload_n 1, 1) := by decide +kernel
theorem dL_guarded_57 : decode cL_guarded 57 = .ok (.bipush 10, 2) := by decide +kernel
theorem dL_guarded_59 : decode cL_guarded 59 = .ok (.iload 6, 2) := by decide +kernel
theorem dL_guarded_61 : decode cL_guarded 61 = .ok (.imul, 1) := by decide +kernel
theorem dL_guarded_62 : decode cL_guarded 62 = .ok (.iload 11, 2) := by decide +kernel
theorem dL_guarded_64 : decode cL_guarded 64 = .ok (.iadd, 1) := by decide +kernel
theorem dL_guarded_65 : decode cL_guarded 65 = .ok (.iaload, 1) := by decide +kernel
theorem dL_guarded_66 : decode cL_guarded 66 = .ok (.iload 9, 2) := by decide +kernel
theorem dL_guarded_68 : decode cL_guarded 68 = .ok (.if_icmp .lt 7, 3) := by decide +kernel
theorem dL_guarded_71 : decode cL_guarded 71 = .ok (.iconst 1, 1) := by decide +kernel
theorem dL_guarded_72 : decode cL_guarded 72 = .ok (.goto 4, 3) := by decide +kernel
theorem dL_guarded_75 : decode cL_guarded 75 = .ok (.iconst 0, 1) := by decide +kernel
theorem dL_guarded_76 : decode cL_guarded 76 = .ok (.iadd, 1) := by decide +kernel
theorem dL_guarded_77 : decode cL_guarded 77 = .ok (.istore 10, 2) := by decide +kernel
theorem dL_guarded_79 : decode cL_guarded 79 = .ok (.iinc 11 1, 3) := by decide +kernel
theorem dL_guarded_82 : decode cL_guarded 82 = .ok (.goto (-36), 3) := by decide +kernel
theorem dL_guarded_85 : decode cL_guarded 85 = .ok (.aload_n 0, 1) := by decide +kernel
theorem dL_guarded_86 : decode cL_guarded 86 = .ok (.iload 7, 2) := by decide +kernel
theorem dL_guarded_88 : decode cL_guarded 88 = .ok (.iconst 2, 1) := by decide +kernel
theorem dL_guarded_89 : decode cL_guarded 89 = .ok (.iadd, 1) := by decide +kernel
theorem dL_guarded_90 : decode cL_guarded 90 = .ok (.iaload, 1) := by decide +kernel
theorem dL_guarded_91 : decode cL_guarded 91 = .ok (.iload 10, 2) := by decide +kernel
theorem dL_guarded_93 : decode cL_guarded 93 = .ok (.imul, 1) := by decide +kernel
theorem dL_guarded_94 : decode cL_guarded 94 = .ok (.iload 4, 2) := by decide +kernel
theorem dL_guarded_96 : decode cL_guarded 96 = .ok (.aload_n 2, 1) := by decide +kernel
theorem dL_guarded_97 : decode cL_guarded 97 = .ok (.iconst 5, 1) := by decide +kernel
theorem dL_guarded_98 : decode cL_guarded 98 = .ok (.iaload, 1) := by decide +kernel
theorem dL_guarded_99 : decode cL_guarded 99 = .ok (.imul, 1) := by decide +kernel
theorem dL_guarded_100 : decode cL_guarded 100 = .ok (.if_icmp .lt 8, 3) := by decide +kernel
theorem dL_guarded_103 : decode cL_guarded 103 = .ok (.iload 9, 2) := by decide +kernel
theorem dL_guarded_105 : decode cL_guarded 105 = .ok (.goto 5, 3) := by decide +kernel
theorem dL_guarded_108 : decode cL_guarded 108 = .ok (.iload 8, 2) := by decide +kernel
theorem dL_guarded_110 : decode cL_guarded 110 = .ok (.istore 8, 2) := by decide +kernel
theorem dL_guarded_112 : decode cL_guarded 112 = .ok (.iinc 9 1, 3) := by decide +kernel
theorem dL_guarded_115 : decode cL_guarded 115 = .ok (.goto (-82), 3) := by decide +kernel
theorem dL_guarded_118 : decode cL_guarded 118 = .ok (.iload 5, 2) := by decide +kernel
theorem dL_guarded_120 : decode cL_guarded 120 = .ok (.aload_n 0, 1) := by decide +kernel
theorem dL_guarded_121 : decode cL_guarded 121 = .ok (.iload 7, 2) := by decide +kernel
theorem dL_guarded_123 : decode cL_guarded 123 = .ok (.iaload, 1) := by decide +kernel
theorem dL_guarded_124 : decode cL_guarded 124 = .ok (.iload_n 3, 1) := by decide +kernel
theorem dL_guarded_125 : decode cL_guarded 125 = .ok (.if_icmp .gt 29, 3) := by decide +kernel
theorem dL_guarded_128 : decode cL_guarded 128 = .ok (.aload_n 0, 1) := by decide +kernel
theorem dL_guarded_129 : decode cL_guarded 129 = .ok (.iload 7, 2) := by decide +kernel
theorem dL_guarded_131 : decode cL_guarded 131 = .ok (.iconst 1, 1) := by decide +kernel
theorem dL_guarded_132 : decode cL_guarded 132 = .ok (.iadd, 1) := by decide +kernel
theorem dL_guarded_133 : decode cL_guarded 133 = .ok (.iaload, 1) := by decide +kernel
theorem dL_guarded_134 : decode cL_guarded 134 = .ok (.iload_n 3, 1) := by decide +kernel
theorem dL_guarded_135 : decode cL_guarded 135 = .ok (.if_icmp .lt 19, 3) := by decide +kernel
theorem dL_guarded_138 : decode cL_guarded 138 = .ok (.aload_n 0, 1) := by decide +kernel
theorem dL_guarded_139 : decode cL_guarded 139 = .ok (.iload 7, 2) := by decide +kernel
theorem dL_guarded_141 : decode cL_guarded 141 = .ok (.iconst 2, 1) := by decide +kernel
theorem dL_guarded_142 : decode cL_guarded 142 = .ok (.iadd, 1) := by decide +kernel
theorem dL_guarded_143 : decode cL_guarded 143 = .ok (.iaload, 1) := by decide +kernel
theorem dL_guarded_144 : decode cL_guarded 144 = .ok (.iload 4, 2) := by decide +kernel
theorem dL_guarded_146 : decode cL_guarded 146 = .ok (.if_icmp .le 8, 3) := by decide +kernel
theorem dL_guarded_149 : decode cL_guarded 149 = .ok (.iload 8, 2) := by decide +kernel
theorem dL_guarded_151 : decode cL_guarded 151 = .ok (.goto 4, 3) := by decide +kernel
theorem dL_guarded_154 : decode cL_guarded 154 = .ok (.iconst 0, 1) := by decide +kernel
theorem dL_guarded_155 : decode cL_guarded 155 = .ok (.iadd, 1) := by decide +kernel
theorem dL_guarded_156 : decode cL_guarded 156 = .ok (.istore 5, 2) := by decide +kernel
theorem dL_guarded_158 : decode cL_guarded 158 = .ok (.iinc 6 1, 3) := by decide +kernel
theorem dL_guarded_161 : decode cL_guarded 161 = .ok (.goto (-155), 3) := by decide +kernel
theorem dL_guarded_164 : decode cL_guarded 164 = .ok (.iload 5, 2) := by decide +kernel
theorem dL_guarded_166 : decode cL_guarded 166 = .ok (.ireturn, 1) := by decide +kernel
set_option maxRecDepth 20000 in
theorem ggL_areLegs_L_asks : GoodIn wsL_areLegs wsL_asks := goodIn_ca (goodIn_ca (goodIn_r _ [4, 5, 6, 7, 8, 9, 10, 11, 12, 13, 14, 15, 16, 17, 18, 19, 20, 21, 22, 23, 24, 25, 26, 27, 28, 29, 30, 31, 32, 33, 34, 35, 36, 37, 38, 39, 40, 41, 42, 43, 44, 45, 46, 47, 48, 49, 50, 51, 52, 53, 54, 55, 56, 57, 58, 59, 60, 61, 62, 63, 64, 65, 66, 67, 68, 69, 70, 71, 72, 73, 74, 75, 76, 77, 78, 79, 80, 81, 82, 83, 84, 85, 86, 87, 88, 89, 90, 91, 92, 93, 94, 95, 96, 97, 98, 99, 100, 101, 102, 103, 104, 105, 106, 107, 108, 109, 110, 111, 112, 113, 114, 115, 116, 117, 118, 119, 120, 121, 122, 123, 124, 125, 126, 127, 128, 129, 130, 131, 132, 133, 134, 135, 136, 137, 138, 139, 140, 141, 142, 143, 144, 145, 146, 147, 148, 149, 150, 151, 152, 153, 154, 155, 156, 157, 158, 159, 160, 161, 162, 163, 164, 165, 166, 167, 168, 169, 170, 171, 172, 173, 174, 175, 176, 177, 178, 246, 247, 248, 249, 250, 251, 252, 253, 254, 255, 256, 257, 258, 259, 260, 261, 262, 263, 264, 265, 266, 267, 268, 269, 270, 271, 272, 273, 274, 275, 276, 277, 278, 279] (by decide +kernel) (by decide +kernel)) (goodIn_sub (fun _ h => List.mem_cons_of_mem _ (List.mem_append_left _ (List.mem_append_right _ h))) (by decide +kernel))) (goodIn_sub (fun _ h => List.mem_cons_of_mem _ (List.mem_append_right _ h)) (by decide +kernel))
set_option maxRecDepth 20000 in
theorem gL_areLegs_L_asks : GoodIn wsL_areLegs (va_wsS RL 79 yL_asks wsL_asks) := goodIn_app (goodIn_of _ (by decide +kernel)) ggL_areLegs_L_asks
set_option maxRecDepth 20000 in
theorem ggL_areLegs_X5_worth : GoodIn wsL_areLegs wsX5_worth := goodIn_r _ [182, 83, 84, 85, 10, 86, 87, 88, 89, 90, 91, 92, 93, 94, 95, 96, 97, 98, 99, 100, 101, 102, 103, 104, 105, 106, 65, 107, 108, 109, 110, 111, 112, 113, 114, 115, 116, 117, 118, 119, 120, 121, 122, 123, 124, 125, 47, 48, 49, 50, 51, 20, 21, 22, 23, 24, 25, 26, 27, 28, 29, 30, 31, 32, 33, 34, 35, 36, 37, 17, 18, 19, 126, 127, 128, 129, 130, 131, 132, 133, 134, 135, 136, 137, 138, 139, 140, 141, 142, 143, 246, 247, 248, 249, 250, 251, 252, 253, 254, 255, 256, 257, 258, 259, 272, 273, 274, 275, 276, 277, 278, 279, 265, 266, 267, 268, 269, 270, 271, 260, 261, 262, 263, 264] (by decide +kernel) (by decide +kernel)
set_option maxRecDepth 20000 in
theorem gL_areLegs_X5_worth : GoodIn wsL_areLegs (wsV RL 83 RX5 yX5_worth wsX5_worth) := goodIn_app (goodIn_of _ (by decide +kernel)) ggL_areLegs_X5_worth
set_option maxRecDepth 20000 in
theorem ggL_areLegs_X5_worthByTable : GoodIn wsL_areLegs wsX5_worthByTable := goodIn_r _ [186, 187, 62, 121, 122, 123, 10, 124, 125, 112, 113, 114, 47, 48, 49, 50, 51, 20, 21, 22, 23, 24, 25, 26, 27, 28, 29, 30, 31, 32, 33, 34, 35, 36, 37, 188, 189, 190, 191, 192, 193, 194, 195, 196, 197, 198, 199, 200, 130, 131, 106, 65, 107, 108, 109, 110, 111, 201, 202, 203, 204, 64, 66, 67, 68, 69, 205, 206, 207, 208, 209, 210, 211, 212, 213, 214, 246, 247, 248, 249, 250, 251, 252, 253, 254, 255, 256, 257, 258, 259, 260, 261, 262, 263, 264, 280, 265, 266, 267, 268, 269, 270, 271] (by decide +kernel) (by decide +kernel)
set_option maxRecDepth 20000 in
theorem gL_areLegs_X5_worthByTable : GoodIn wsL_areLegs (wsV RL 87 RX5 yX5_worthByTable wsX5_worthByTable) := goodIn_app (goodIn_of _ (by decide +kernel)) ggL_areLegs_X5_worthByTable
set_option maxRecDepth 20000 in
theorem ggL_areLegs_X5_revenue : GoodIn wsL_areLegs wsX5_revenue := goodIn_r _ [218, 219, 220, 221, 10, 222, 24, 25, 26, 27, 28, 29, 246, 247, 248, 249, 250, 251, 252, 253, 254, 255, 256, 257, 258, 259, 260, 261, 262, 263, 264] (by decide +kernel) (by decide +kernel)
set_option maxRecDepth 20000 in
theorem gL_areLegs_X5_revenue : GoodIn wsL_areLegs (wsV RL 90 RX5 yX5_revenue wsX5_revenue) := goodIn_app (goodIn_of _ (by decide +kernel)) ggL_areLegs_X5_revenue
set_option maxRecDepth 20000 in
theorem ggL_areLegs_X5_earned : GoodIn wsL_areLegs wsX5_earned := goodIn_r _ [226, 227, 246, 247, 248, 249, 250, 251, 252, 253, 254, 255, 256, 257, 258, 259] (by decide +kernel) (by decide +kernel)
set_option maxRecDepth 20000 in
theorem gL_areLegs_X5_earned : GoodIn wsL_areLegs (wsV RL 93 RX5 yX5_earned wsX5_earned) := goodIn_app (goodIn_of _ (by decide +kernel)) ggL_areLegs_X5_earned
set_option maxRecDepth 20000 in
theorem ggL_areLegs_X5_days : GoodIn wsL_areLegs wsX5_days := goodIn_r _ [231, 63, 246, 247, 248, 249, 250, 251, 252, 253, 254, 255, 256, 257, 258, 259] (by decide +kernel) (by decide +kernel)
set_option maxRecDepth 20000 in
theorem gL_areLegs_X5_days : GoodIn wsL_areLegs (wsV RL 97 RX5 yX5_days wsX5_days) := goodIn_app (goodIn_of _ (by decide +kernel)) ggL_areLegs_X5_days
set_option maxRecDepth 20000 in
theorem ggL_areLegs_X5_products : GoodIn wsL_areLegs wsX5_products := goodIn_r _ [235, 236, 246, 247, 248, 249, 250, 251, 252, 253, 254, 255, 256, 257, 258, 259] (by decide +kernel) (by decide +kernel)
set_option maxRecDepth 20000 in
theorem gL_areLegs_X5_products : GoodIn wsL_areLegs (wsV RL 100 RX5 yX5_products wsX5_products) := goodIn_app (goodIn_of _ (by decide +kernel)) ggL_areLegs_X5_products
set_option maxRecDepth 20000 in
theorem ggL_areLegs_X5_bid : GoodIn wsL_areLegs wsX5_bid := goodIn_ca (goodIn_r _ [78, 12, 13, 14, 15, 10, 16, 17, 18, 19, 79, 80, 81, 82, 83, 84, 85, 86, 87, 88, 89, 90, 91, 92, 93, 94, 95, 96, 97, 98, 99, 100, 101, 102, 103, 104, 105, 106, 65, 107, 108, 109, 110, 111, 112, 113, 114, 115, 116, 117, 118, 119, 120, 121, 122, 123, 124, 125, 47, 48, 49, 50, 51, 20, 21, 22, 23, 24, 25, 26, 27, 28, 29, 30, 31, 32, 33, 34, 35, 36, 37, 126, 127, 128, 129, 130, 131, 132, 133, 134, 135, 136, 137, 138, 139, 140, 141, 142, 143, 246, 247, 248, 249, 250, 251, 252, 253, 254, 255, 256, 257, 258, 259, 272, 273, 274, 275, 276, 277, 278, 279, 265, 266, 267, 268, 269, 270, 271, 260, 261, 262, 263, 264] (by decide +kernel) (by decide +kernel)) (goodIn_sub (fun _ h => List.mem_cons_of_mem _ (List.mem_append_left _ (List.mem_append_right _ h))) (by decide +kernel))
set_option maxRecDepth 20000 in
theorem gL_areLegs_X5_bid : GoodIn wsL_areLegs (wsV RL 60 RX5 yX5_bid wsX5_bid) := goodIn_app (goodIn_of _ (by decide +kernel)) ggL_areLegs_X5_bid
set_option maxRecDepth 20000 in
theorem ggL_areLegs_L_booked : GoodIn wsL_areLegs wsL_booked := goodIn_r _ [239] (by decide +kernel) (by decide +kernel)
set_option maxRecDepth 20000 in
theorem gL_areLegs_L_booked : GoodIn wsL_areLegs (va_wsS RL 103 yL_booked wsL_booked) := goodIn_app (goodIn_of _ (by decide +kernel)) ggL_areLegs_L_booked
set_option maxRecDepth 20000 in
theorem ggL_areLegs_X5_booked : GoodIn wsL_areLegs wsX5_booked := goodIn_ca (goodIn_r _ [11, 12, 13, 14, 15, 10, 16, 17, 18, 19, 20, 21, 22, 23, 24, 25, 26, 27, 28, 29, 30, 31, 32, 33, 34, 35, 36, 37, 246, 247, 248, 249, 250, 251, 252, 253, 254, 255, 256, 257, 258, 259, 260, 261, 262, 263, 264] (by decide +kernel) (by decide +kernel)) (goodIn_sub (fun _ h => List.mem_cons_of_mem _ (List.mem_append_left _ (List.mem_append_right _ h))) (by decide +kernel))
set_option maxRecDepth 20000 in
theorem gL_areLegs_X5_booked : GoodIn wsL_areLegs (wsV RL 51 RX5 yX5_booked wsX5_booked) := goodIn_app (goodIn_of _ (by decide +kernel)) ggL_areLegs_X5_booked
set_option maxRecDepth 20000 in
theorem ggL_areLegs_X5_authorised : GoodIn wsL_areLegs wsX5_authorised := goodIn_ca (goodIn_r _ [41, 12, 13, 14, 15, 10, 16, 17, 18, 19, 42, 43, 44, 45, 46, 47, 48, 49, 50, 51, 246, 247, 248, 249, 250, 251, 252, 253, 254, 255, 256, 257, 258, 259] (by decide +kernel) (by decide +kernel)) (goodIn_sub (fun _ h => List.mem_cons_of_mem _ (List.mem_append_left _ (List.mem_append_right _ h))) (by decide +kernel))
set_option maxRecDepth 20000 in
theorem gL_areLegs_X5_authorised : GoodIn wsL_areLegs (wsV RL 54 RX5 yX5_authorised wsX5_authorised) := goodIn_app (goodIn_of _ (by decide +kernel)) ggL_areLegs_X5_authorised
set_option maxRecDepth 20000 in
theorem ggL_areLegs_L_authorised : GoodIn wsL_areLegs wsL_authorised := goodIn_r _ [242] (by decide +kernel) (by decide +kernel)
set_option maxRecDepth 20000 in
theorem gL_areLegs_L_authorised : GoodIn wsL_areLegs (va_wsS RL 106 yL_authorised wsL_authorised) := goodIn_app (goodIn_of _ (by decide +kernel)) ggL_areLegs_L_authorised
set_option maxRecDepth 20000 in
theorem ggL_areLegs_X5_protectedSeats : GoodIn wsL_areLegs wsX5_protectedSeats := goodIn_ca (goodIn_ca (goodIn_r _ [55, 12, 13, 56, 57, 14, 15, 10, 16, 17, 18, 19, 58, 59, 60, 61, 62, 63, 64, 65, 66, 67, 68, 69, 70, 71, 72, 73, 74, 246, 247, 248, 249, 250, 251, 252, 253, 254, 255, 256, 257, 258, 259, 265, 266, 267, 268, 269, 270, 271] (by decide +kernel) (by decide +kernel)) (goodIn_sub (fun _ h => List.mem_cons_of_mem _ (List.mem_append_left _ (List.mem_append_right _ h))) (by decide +kernel))) (goodIn_sub (fun _ h => List.mem_cons_of_mem _ (List.mem_append_right _ h)) (by decide +kernel))
set_option maxRecDepth 20000 in
theorem gL_areLegs_X5_protectedSeats : GoodIn wsL_areLegs (wsV RL 57 RX5 yX5_protectedSeats wsX5_protectedSeats) := goodIn_app (goodIn_of _ (by decide +kernel)) ggL_areLegs_X5_protectedSeats
set_option maxRecDepth 20000 in
theorem ggL_areLegs_L_guarded : GoodIn wsL_areLegs wsL_guarded := goodIn_r _ [245] (by decide +kernel) (by decide +kernel)
set_option maxRecDepth 20000 in
theorem gL_areLegs_L_guarded : GoodIn wsL_areLegs (va_wsS RL 109 yL_guarded wsL_guarded) := goodIn_app (goodIn_of _ (by decide +kernel)) ggL_areLegs_L_guarded
theorem dL_areLegs_0 : decode cL_areLegs 0 = .ok (.aload_n 0, 1) := by decide +kernel
theorem dL_areLegs_1 : decode cL_areLegs 1 = .ok (.iconst 0, 1) := by decide +kernel
theorem dL_areLegs_2 : decode cL_areLegs 2 = .ok (.iconst 3, 1) := by decide +kernel
theorem dL_areLegs_3 : decode cL_areLegs 3 = .ok (.iconst 0, 1) := by decide +kernel
theorem dL_areLegs_4 : decode cL_areLegs 4 = .ok (.iconst 0, 1) := by decide +kernel
theorem dL_areLegs_5 : decode cL_areLegs 5 = .ok (.invokestatic 79, 3) := by decide +kernel
theorem dL_areLegs_8 : decode cL_areLegs 8 = .ok (.bipush (-30), 2) := by decide +kernel
theorem dL_areLegs_10 : decode cL_areLegs 10 = .ok (.if_icmp .ne 74, 3) := by decide +kernel
theorem dL_areLegs_13 : decode cL_areLegs 13 = .ok (.aload_n 0, 1) := by decide +kernel
theorem dL_areLegs_14 : decode cL_areLegs 14 = .ok (.iconst 1, 1) := by decide +kernel
theorem dL_areLegs_15 : decode cL_areLegs 15 = .ok (.iconst (-1), 1) := by decide +kernel
theorem dL_areLegs_16 : decode cL_areLegs 16 = .ok (.iconst 0, 1) := by decide +kernel
theorem dL_areLegs_17 : decode cL_areLegs 17 = .ok (.iconst 0, 1) := by decide +kernel
theorem dL_areLegs_18 : decode cL_areLegs 18 = .ok (.invokestatic 79, 3) := by decide +kernel
theorem dL_areLegs_21 : decode cL_areLegs 21 = .ok (.bipush (-30), 2) := by decide +kernel
theorem dL_areLegs_23 : decode cL_areLegs 23 = .ok (.if_icmp .ne 61, 3) := by decide +kernel
theorem dL_areLegs_26 : decode cL_areLegs 26 = .ok (.aload_n 0, 1) := by decide +kernel
theorem dL_areLegs_27 : decode cL_areLegs 27 = .ok (.iconst 2, 1) := by decide +kernel
theorem dL_areLegs_28 : decode cL_areLegs 28 = .ok (.iconst 3, 1) := by decide +kernel
theorem dL_areLegs_29 : decode cL_areLegs 29 = .ok (.iconst 0, 1) := by decide +kernel
theorem dL_areLegs_30 : decode cL_areLegs 30 = .ok (.iconst 0, 1) := by decide +kernel
theorem dL_areLegs_31 : decode cL_areLegs 31 = .ok (.invokestatic 79, 3) := by decide +kernel
theorem dL_areLegs_34 : decode cL_areLegs 34 = .ok (.bipush (-30), 2) := by decide +kernel
theorem dL_areLegs_36 : decode cL_areLegs 36 = .ok (.if_icmp .ne 48, 3) := by decide +kernel
theorem dL_areLegs_39 : decode cL_areLegs 39 = .ok (.aload_n 0, 1) := by decide +kernel
theorem dL_areLegs_40 : decode cL_areLegs 40 = .ok (.iconst 2, 1) := by decide +kernel
theorem dL_areLegs_41 : decode cL_areLegs 41 = .ok (.iconst 0, 1) := by decide +kernel
theorem dL_areLegs_42 : decode cL_areLegs 42 = .ok (.iconst 0, 1) := by decide +kernel
theorem dL_areLegs_43 : decode cL_areLegs 43 = .ok (.iconst 0, 1) := by decide +kernel
theorem dL_areLegs_44 : decode cL_areLegs 44 = .ok (.invokestatic 79, 3) := by decide +kernel
theorem dL_areLegs_47 : decode cL_areLegs 47 = .ok (.bipush (-20), 2) := by decide +kernel
theorem dL_areLegs_49 : decode cL_areLegs 49 = .ok (.if_icmp .ne 35, 3) := by decide +kernel
theorem dL_areLegs_52 : decode cL_areLegs 52 = .ok (.aload_n 0, 1) := by decide +kernel
theorem dL_areLegs_53 : decode cL_areLegs 53 = .ok (.iconst 2, 1) := by decide +kernel
theorem dL_areLegs_54 : decode cL_areLegs 54 = .ok (.iconst 0, 1) := by decide +kernel
theorem dL_areLegs_55 : decode cL_areLegs 55 = .ok (.sipush 1001, 3) := by decide +kernel
theorem dL_areLegs_58 : decode cL_areLegs 58 = .ok (.iconst 0, 1) := by decide +kernel
theorem dL_areLegs_59 : decode cL_areLegs 59 = .ok (.invokestatic 79, 3) := by decide +kernel
theorem dL_areLegs_62 : decode cL_areLegs 62 = .ok (.bipush (-20), 2) := by decide +kernel
theorem dL_areLegs_64 : decode cL_areLegs 64 = .ok (.if_icmp .ne 20, 3) := by decide +kernel
theorem dL_areLegs_67 : decode cL_areLegs 67 = .ok (.aload_n 0, 1) := by decide +kernel
theorem dL_areLegs_68 : decode cL_areLegs 68 = .ok (.iconst 3, 1) := by decide +kernel
theorem dL_areLegs_69 : decode cL_areLegs 69 = .ok (.iconst 3, 1) := by decide +kernel
theorem dL_areLegs_70 : decode cL_areLegs 70 = .ok (.iconst 0, 1) := by decide +kernel
theorem dL_areLegs_71 : decode cL_areLegs 71 = .ok (.iconst 0, 1) := by decide +kernel
theorem dL_areLegs_72 : decode cL_areLegs 72 = .ok (.invokestatic 79, 3) := by decide +kernel
theorem dL_areLegs_75 : decode cL_areLegs 75 = .ok (.bipush (-30), 2) := by decide +kernel
theorem dL_areLegs_77 : decode cL_areLegs 77 = .ok (.if_icmp .ne 7, 3) := by decide +kernel
theorem dL_areLegs_80 : decode cL_areLegs 80 = .ok (.iconst 1, 1) := by decide +kernel
theorem dL_areLegs_81 : decode cL_areLegs 81 = .ok (.goto 4, 3) := by decide +kernel
theorem dL_areLegs_84 : decode cL_areLegs 84 = .ok (.iconst 0, 1) := by decide +kernel
theorem dL_areLegs_85 : decode cL_areLegs 85 = .ok (.istore 6, 2) := by decide +kernel
theorem dL_areLegs_87 : decode cL_areLegs 87 = .ok (.iconst 0, 1) := by decide +kernel
theorem dL_areLegs_88 : decode cL_areLegs 88 = .ok (.istore 7, 2) := by decide +kernel
theorem dL_areLegs_90 : decode cL_areLegs 90 = .ok (.iconst 0, 1) := by decide +kernel
theorem dL_areLegs_91 : decode cL_areLegs 91 = .ok (.istore 8, 2) := by decide +kernel
theorem dL_areLegs_93 : decode cL_areLegs 93 = .ok (.iload 8, 2) := by decide +kernel
theorem dL_areLegs_95 : decode cL_areLegs 95 = .ok (.aload 4, 2) := by decide +kernel
theorem dL_areLegs_97 : decode cL_areLegs 97 = .ok (.bipush 6, 2) := by decide +kernel
theorem dL_areLegs_99 : decode cL_areLegs 99 = .ok (.iaload, 1) := by decide +kernel
theorem dL_areLegs_100 : decode cL_areLegs 100 = .ok (.if_icmp .ge 21, 3) := by decide +kernel
theorem dL_areLegs_103 : decode cL_areLegs 103 = .ok (.iload 7, 2) := by decide +kernel
theorem dL_areLegs_105 : decode cL_areLegs 105 = .ok (.aload_n 3, 1) := by decide +kernel
theorem dL_areLegs_106 : decode cL_areLegs 106 = .ok (.bipush 20, 2) := by decide +kernel
theorem dL_areLegs_108 : decode cL_areLegs 108 = .ok (.iload 8, 2) := by decide +kernel
theorem dL_areLegs_110 : decode cL_areLegs 110 = .ok (.iadd, 1) := by decide +kernel
theorem dL_areLegs_111 : decode cL_areLegs 111 = .ok (.iaload, 1) := by decide +kernel
theorem dL_areLegs_112 : decode cL_areLegs 112 = .ok (.iadd, 1) := by decide +kernel
theorem dL_areLegs_113 : decode cL_areLegs 113 = .ok (.istore 7, 2) := by decide +kernel
theorem dL_areLegs_115 : decode cL_areLegs 115 = .ok (.iinc 8 1, 3) := by decide +kernel
theorem dL_areLegs_118 : decode cL_areLegs 118 = .ok (.goto (-25), 3) := by decide +kernel
theorem dL_areLegs_121 : decode cL_areLegs 121 = .ok (.aload_n 0, 1) := by decide +kernel
theorem dL_areLegs_122 : decode cL_areLegs 122 = .ok (.invokevirtual 83, 3) := by decide +kernel
theorem dL_areLegs_125 : decode cL_areLegs 125 = .ok (.istore 8, 2) := by decide +kernel
theorem dL_areLegs_127 : decode cL_areLegs 127 = .ok (.iload 6, 2) := by decide +kernel
theorem dL_areLegs_129 : decode cL_areLegs 129 = .ok (.ifCond .eq 66, 3) := by decide +kernel
theorem dL_areLegs_132 : decode cL_areLegs 132 = .ok (.aload_n 0, 1) := by decide +kernel
theorem dL_areLegs_133 : decode cL_areLegs 133 = .ok (.invokevirtual 87, 3) := by decide +kernel
theorem dL_areLegs_136 : decode cL_areLegs 136 = .ok (.iload 8, 2) := by decide +kernel
theorem dL_areLegs_138 : decode cL_areLegs 138 = .ok (.if_icmp .ne 57, 3) := by decide +kernel
theorem dL_areLegs_141 : decode cL_areLegs 141 = .ok (.iload 8, 2) := by decide +kernel
theorem dL_areLegs_143 : decode cL_areLegs 143 = .ok (.ifCond .lt 52, 3) := by decide +kernel
theorem dL_areLegs_146 : decode cL_areLegs 146 = .ok (.aload_n 0, 1) := by decide +kernel
theorem dL_areLegs_147 : decode cL_areLegs 147 = .ok (.invokevirtual 90, 3) := by decide +kernel
theorem dL_areLegs_150 : decode cL_areLegs 150 = .ok (.iload 7, 2) := by decide +kernel
theorem dL_areLegs_152 : decode cL_areLegs 152 = .ok (.if_icmp .ne 43, 3) := by decide +kernel
theorem dL_areLegs_155 : decode cL_areLegs 155 = .ok (.aload_n 0, 1) := by decide +kernel
theorem dL_areLegs_156 : decode cL_areLegs 156 = .ok (.invokevirtual 93, 3) := by decide +kernel
theorem dL_areLegs_159 : decode cL_areLegs 159 = .ok (.aload 4, 2) := by decide +kernel
theorem dL_areLegs_161 : decode cL_areLegs 161 = .ok (.bipush 10, 2) := by decide +kernel
theorem dL_areLegs_163 : decode cL_areLegs 163 = .ok (.iaload, 1) := by decide +kernel
theorem dL_areLegs_164 : decode cL_areLegs 164 = .ok (.i2l, 1) := by decide +kernel
theorem dL_areLegs_165 : decode cL_areLegs 165 = .ok (.lcmp, 1) := by decide +kernel
theorem dL_areLegs_166 : decode cL_areLegs 166 = .ok (.ifCond .ne 29, 3) := by decide +kernel
theorem dL_areLegs_169 : decode cL_areLegs 169 = .ok (.aload_n 0, 1) := by decide +kernel
theorem dL_areLegs_170 : decode cL_areLegs 170 = .ok (.invokevirtual 97, 3) := by decide +kernel
theorem dL_areLegs_173 : decode cL_areLegs 173 = .ok (.aload 4, 2) := by decide +kernel
theorem dL_areLegs_175 : decode cL_areLegs 175 = .ok (.iconst 5, 1) := by decide +kernel
theorem dL_areLegs_176 : decode cL_areLegs 176 = .ok (.iaload, 1) := by decide +kernel
theorem dL_areLegs_177 : decode cL_areLegs 177 = .ok (.if_icmp .ne 18, 3) := by decide +kernel
theorem dL_areLegs_180 : decode cL_areLegs 180 = .ok (.aload_n 0, 1) := by decide +kernel
theorem dL_areLegs_181 : decode cL_areLegs 181 = .ok (.invokevirtual 100, 3) := by decide +kernel
theorem dL_areLegs_184 : decode cL_areLegs 184 = .ok (.aload 4, 2) := by decide +kernel
theorem dL_areLegs_186 : decode cL_areLegs 186 = .ok (.iconst 4, 1) := by decide +kernel
theorem dL_areLegs_187 : decode cL_areLegs 187 = .ok (.iaload, 1) := by decide +kernel
theorem dL_areLegs_188 : decode cL_areLegs 188 = .ok (.if_icmp .ne 7, 3) := by decide +kernel
theorem dL_areLegs_191 : decode cL_areLegs 191 = .ok (.iconst 1, 1) := by decide +kernel
theorem dL_areLegs_192 : decode cL_areLegs 192 = .ok (.goto 4, 3) := by decide +kernel
theorem dL_areLegs_195 : decode cL_areLegs 195 = .ok (.iconst 0, 1) := by decide +kernel
theorem dL_areLegs_196 : decode cL_areLegs 196 = .ok (.istore 6, 2) := by decide +kernel
theorem dL_areLegs_198 : decode cL_areLegs 198 = .ok (.iconst 0, 1) := by decide +kernel
theorem dL_areLegs_199 : decode cL_areLegs 199 = .ok (.istore 9, 2) := by decide +kernel
theorem dL_areLegs_201 : decode cL_areLegs 201 = .ok (.iload 9, 2) := by decide +kernel
theorem dL_areLegs_203 : decode cL_areLegs 203 = .ok (.iconst 3, 1) := by decide +kernel
theorem dL_areLegs_204 : decode cL_areLegs 204 = .ok (.if_icmp .ge 228, 3) := by decide +kernel
theorem dL_areLegs_207 : decode cL_areLegs 207 = .ok (.iload 6, 2) := by decide +kernel
theorem dL_areLegs_209 : decode cL_areLegs 209 = .ok (.ifCond .eq 223, 3) := by decide +kernel
theorem dL_areLegs_212 : decode cL_areLegs 212 = .ok (.aload_n 0, 1) := by decide +kernel
theorem dL_areLegs_213 : decode cL_areLegs 213 = .ok (.iload 9, 2) := by decide +kernel
theorem dL_areLegs_215 : decode cL_areLegs 215 = .ok (.invokevirtual 60, 3) := by decide +kernel
theorem dL_areLegs_218 : decode cL_areLegs 218 = .ok (.istore 10, 2) := by decide +kernel
theorem dL_areLegs_220 : decode cL_areLegs 220 = .ok (.aload_n 0, 1) := by decide +kernel
theorem dL_areLegs_221 : decode cL_areLegs 221 = .ok (.iconst 4, 1) := by decide +kernel
theorem dL_areLegs_222 : decode cL_areLegs 222 = .ok (.iload 9, 2) := by decide +kernel
theorem dL_areLegs_224 : decode cL_areLegs 224 = .ok (.iload 9, 2) := by decide +kernel
theorem dL_areLegs_226 : decode cL_areLegs 226 = .ok (.iconst 1, 1) := by decide +kernel
theorem dL_areLegs_227 : decode cL_areLegs 227 = .ok (.invokestatic 79, 3) := by decide +kernel
theorem dL_areLegs_230 : decode cL_areLegs 230 = .ok (.istore 11, 2) := by decide +kernel
theorem dL_areLegs_232 : decode cL_areLegs 232 = .ok (.aload 4, 2) := by decide +kernel
theorem dL_areLegs_234 : decode cL_areLegs 234 = .ok (.iload 9, 2) := by decide +kernel
theorem dL_areLegs_236 : decode cL_areLegs 236 = .ok (.iaload, 1) := by decide +kernel
theorem dL_areLegs_237 : decode cL_areLegs 237 = .ok (.aload_n 3, 1) := by decide +kernel
theorem dL_areLegs_238 : decode cL_areLegs 238 = .ok (.aload 4, 2) := by decide +kernel
theorem dL_areLegs_240 : decode cL_areLegs 240 = .ok (.iload 9, 2) := by decide +kernel
theorem dL_areLegs_242 : decode cL_areLegs 242 = .ok (.invokestatic 103, 3) := by decide +kernel
theorem dL_areLegs_245 : decode cL_areLegs 245 = .ok (.isub, 1) := by decide +kernel
theorem dL_areLegs_246 : decode cL_areLegs 246 = .ok (.istore 12, 2) := by decide +kernel
theorem dL_areLegs_248 : decode cL_areLegs 248 = .ok (.iconst 0, 1) := by decide +kernel
theorem dL_areLegs_249 : decode cL_areLegs 249 = .ok (.istore 13, 2) := by decide +kernel
theorem dL_areLegs_251 : decode cL_areLegs 251 = .ok (.iconst 0, 1) := by decide +kernel
theorem dL_areLegs_252 : decode cL_areLegs 252 = .ok (.istore 14, 2) := by decide +kernel
theorem dL_areLegs_254 : decode cL_areLegs 254 = .ok (.iload 14, 2) := by decide +kernel
theorem dL_areLegs_256 : decode cL_areLegs 256 = .ok (.aload 4, 2) := by decide +kernel
theorem dL_areLegs_258 : decode cL_areLegs 258 = .ok (.iconst 4, 1) := by decide +kernel
theorem dL_areLegs_259 : decode cL_areLegs 259 = .ok (.iaload, 1) := by decide +kernel
theorem dL_areLegs_260 : decode cL_areLegs 260 = .ok (.if_icmp .ge 65, 3) := by decide +kernel
theorem dL_areLegs_263 : decode cL_areLegs 263 = .ok (.aload_n 1, 1) := by decide +kernel
theorem dL_areLegs_264 : decode cL_areLegs 264 = .ok (.bipush 6, 2) := by decide +kernel
theorem dL_areLegs_266 : decode cL_areLegs 266 = .ok (.iload 14, 2) := by decide +kernel
theorem dL_areLegs_268 : decode cL_areLegs 268 = .ok (.imul, 1) := by decide +kernel
theorem dL_areLegs_269 : decode cL_areLegs 269 = .ok (.iaload, 1) := by decide +kernel
theorem dL_areLegs_270 : decode cL_areLegs 270 = .ok (.iload 9, 2) := by decide +kernel
theorem dL_areLegs_272 : decode cL_areLegs 272 = .ok (.if_icmp .gt 43, 3) := by decide +kernel
theorem dL_areLegs_275 : decode cL_areLegs 275 = .ok (.aload_n 1, 1) := by decide +kernel
theorem dL_areLegs_276 : decode cL_areLegs 276 = .ok (.bipush 6, 2) := by decide +kernel
theorem dL_areLegs_278 : decode cL_areLegs 278 = .ok (.iload 14, 2) := by decide +kernel
theorem dL_areLegs_280 : decode cL_areLegs 280 = .ok (.imul, 1) := by decide +kernel
theorem dL_areLegs_281 : decode cL_areLegs 281 = .ok (.iconst 1, 1) := by decide +kernel
theorem dL_areLegs_282 : decode cL_areLegs 282 = .ok (.iadd, 1) := by decide +kernel
theorem dL_areLegs_283 : decode cL_areLegs 283 = .ok (.iaload, 1) := by decide +kernel
theorem dL_areLegs_284 : decode cL_areLegs 284 = .ok (.iload 9, 2) := by decide +kernel
theorem dL_areLegs_286 : decode cL_areLegs 286 = .ok (.if_icmp .lt 29, 3) := by decide +kernel
theorem dL_areLegs_289 : decode cL_areLegs 289 = .ok (.aload_n 1, 1) := by decide +kernel
theorem dL_areLegs_290 : decode cL_areLegs 290 = .ok (.bipush 6, 2) := by decide +kernel
theorem dL_areLegs_292 : decode cL_areLegs 292 = .ok (.iload 14, 2) := by decide +kernel
theorem dL_areLegs_294 : decode cL_areLegs 294 = .ok (.imul, 1) := by decide +kernel
theorem dL_areLegs_295 : decode cL_areLegs 295 = .ok (.iconst 2, 1) := by decide +kernel
theorem dL_areLegs_296 : decode cL_areLegs 296 = .ok (.iadd, 1) := by decide +kernel
theorem dL_areLegs_297 : decode cL_areLegs 297 = .ok (.iaload, 1) := by decide +kernel
theorem dL_areLegs_298 : decode cL_areLegs 298 = .ok (.iload 13, 2) := by decide +kernel
theorem dL_areLegs_300 : decode cL_areLegs 300 = .ok (.if_icmp .le 15, 3) := by decide +kernel
theorem dL_areLegs_303 : decode cL_areLegs 303 = .ok (.aload_n 1, 1) := by decide +kernel
theorem dL_areLegs_304 : decode cL_areLegs 304 = .ok (.bipush 6, 2) := by decide +kernel
theorem dL_areLegs_306 : decode cL_areLegs 306 = .ok (.iload 14, 2) := by decide +kernel
theorem dL_areLegs_308 : decode cL_areLegs 308 = .ok (.imul, 1) := by decide +kernel
theorem dL_areLegs_309 : decode cL_areLegs 309 = .ok (.iconst 2, 1) := by decide +kernel
theorem dL_areLegs_310 : decode cL_areLegs 310 = .ok (.iadd, 1) := by decide +kernel
theorem dL_areLegs_311 : decode cL_areLegs 311 = .ok (.iaload, 1) := by decide +kernel
theorem dL_areLegs_312 : decode cL_areLegs 312 = .ok (.goto 5, 3) := by decide +kernel
theorem dL_areLegs_315 : decode cL_areLegs 315 = .ok (.iload 13, 2) := by decide +kernel
theorem dL_areLegs_317 : decode cL_areLegs 317 = .ok (.istore 13, 2) := by decide +kernel
theorem dL_areLegs_319 : decode cL_areLegs 319 = .ok (.iinc 14 1, 3) := by decide +kernel
theorem dL_areLegs_322 : decode cL_areLegs 322 = .ok (.goto (-68), 3) := by decide +kernel
theorem dL_areLegs_325 : decode cL_areLegs 325 = .ok (.aload_n 0, 1) := by decide +kernel
theorem dL_areLegs_326 : decode cL_areLegs 326 = .ok (.iload 9, 2) := by decide +kernel
theorem dL_areLegs_328 : decode cL_areLegs 328 = .ok (.invokevirtual 51, 3) := by decide +kernel
theorem dL_areLegs_331 : decode cL_areLegs 331 = .ok (.aload_n 3, 1) := by decide +kernel
theorem dL_areLegs_332 : decode cL_areLegs 332 = .ok (.aload 4, 2) := by decide +kernel
theorem dL_areLegs_334 : decode cL_areLegs 334 = .ok (.iload 9, 2) := by decide +kernel
theorem dL_areLegs_336 : decode cL_areLegs 336 = .ok (.invokestatic 103, 3) := by decide +kernel
theorem dL_areLegs_339 : decode cL_areLegs 339 = .ok (.if_icmp .ne 84, 3) := by decide +kernel
theorem dL_areLegs_342 : decode cL_areLegs 342 = .ok (.aload_n 0, 1) := by decide +kernel
theorem dL_areLegs_343 : decode cL_areLegs 343 = .ok (.iload 9, 2) := by decide +kernel
theorem dL_areLegs_345 : decode cL_areLegs 345 = .ok (.invokevirtual 54, 3) := by decide +kernel
theorem dL_areLegs_348 : decode cL_areLegs 348 = .ok (.aload 4, 2) := by decide +kernel
theorem dL_areLegs_350 : decode cL_areLegs 350 = .ok (.iload 9, 2) := by decide +kernel
theorem dL_areLegs_352 : decode cL_areLegs 352 = .ok (.invokestatic 106, 3) := by decide +kernel
theorem dL_areLegs_355 : decode cL_areLegs 355 = .ok (.if_icmp .ne 68, 3) := by decide +kernel
theorem dL_areLegs_358 : decode cL_areLegs 358 = .ok (.aload_n 0, 1) := by decide +kernel
theorem dL_areLegs_359 : decode cL_areLegs 359 = .ok (.iload 9, 2) := by decide +kernel
theorem dL_areLegs_361 : decode cL_areLegs 361 = .ok (.iload 5, 2) := by decide +kernel
theorem dL_areLegs_363 : decode cL_areLegs 363 = .ok (.invokevirtual 57, 3) := by decide +kernel
theorem dL_areLegs_366 : decode cL_areLegs 366 = .ok (.aload_n 1, 1) := by decide +kernel
theorem dL_areLegs_367 : decode cL_areLegs 367 = .ok (.aload_n 2, 1) := by decide +kernel
theorem dL_areLegs_368 : decode cL_areLegs 368 = .ok (.aload 4, 2) := by decide +kernel
theorem dL_areLegs_370 : decode cL_areLegs 370 = .ok (.iload 9, 2) := by decide +kernel
theorem dL_areLegs_372 : decode cL_areLegs 372 = .ok (.iload 5, 2) := by decide +kernel
theorem dL_areLegs_374 : decode cL_areLegs 374 = .ok (.invokestatic 109, 3) := by decide +kernel
theorem dL_areLegs_377 : decode cL_areLegs 377 = .ok (.if_icmp .ne 46, 3) := by decide +kernel
theorem dL_areLegs_380 : decode cL_areLegs 380 = .ok (.iload 10, 2) := by decide +kernel
theorem dL_areLegs_382 : decode cL_areLegs 382 = .ok (.ifCond .lt 41, 3) := by decide +kernel
theorem dL_areLegs_385 : decode cL_areLegs 385 = .ok (.iload 10, 2) := by decide +kernel
theorem dL_areLegs_387 : decode cL_areLegs 387 = .ok (.iload 13, 2) := by decide +kernel
theorem dL_areLegs_389 : decode cL_areLegs 389 = .ok (.if_icmp .gt 34, 3) := by decide +kernel
theorem dL_areLegs_392 : decode cL_areLegs 392 = .ok (.iload 12, 2) := by decide +kernel
theorem dL_areLegs_394 : decode cL_areLegs 394 = .ok (.iconst 1, 1) := by decide +kernel
theorem dL_areLegs_395 : decode cL_areLegs 395 = .ok (.if_icmp .ge 12, 3) := by decide +kernel
theorem dL_areLegs_398 : decode cL_areLegs 398 = .ok (.iload 11, 2) := by decide +kernel
theorem dL_areLegs_400 : decode cL_areLegs 400 = .ok (.iconst (-1), 1) := by decide +kernel
theorem dL_areLegs_401 : decode cL_areLegs 401 = .ok (.if_icmp .ne 22, 3) := by decide +kernel
theorem dL_areLegs_404 : decode cL_areLegs 404 = .ok (.goto 15, 3) := by decide +kernel
theorem dL_areLegs_407 : decode cL_areLegs 407 = .ok (.iload 11, 2) := by decide +kernel
theorem dL_areLegs_409 : decode cL_areLegs 409 = .ok (.ifCond .lt 14, 3) := by decide +kernel
theorem dL_areLegs_412 : decode cL_areLegs 412 = .ok (.iload 11, 2) := by decide +kernel
theorem dL_areLegs_414 : decode cL_areLegs 414 = .ok (.iload 8, 2) := by decide +kernel
theorem dL_areLegs_416 : decode cL_areLegs 416 = .ok (.if_icmp .gt 7, 3) := by decide +kernel
theorem dL_areLegs_419 : decode cL_areLegs 419 = .ok (.iconst 1, 1) := by decide +kernel
theorem dL_areLegs_420 : decode cL_areLegs 420 = .ok (.goto 4, 3) := by decide +kernel
theorem dL_areLegs_423 : decode cL_areLegs 423 = .ok (.iconst 0, 1) := by decide +kernel
theorem dL_areLegs_424 : decode cL_areLegs 424 = .ok (.istore 6, 2) := by decide +kernel
theorem dL_areLegs_426 : decode cL_areLegs 426 = .ok (.iinc 9 1, 3) := by decide +kernel
theorem dL_areLegs_429 : decode cL_areLegs 429 = .ok (.goto (-228), 3) := by decide +kernel
theorem dL_areLegs_432 : decode cL_areLegs 432 = .ok (.iload 6, 2) := by decide +kernel
theorem dL_areLegs_434 : decode cL_areLegs 434 = .ok (.ireturn, 1) := by decide +kernel
set_option maxRecDepth 20000 in
theorem ggL_areProducts_L_asks : GoodIn wsL_areProducts wsL_asks := goodIn_ca (goodIn_ca (goodIn_r _ [4, 5, 6, 7, 8, 9, 10, 11, 12, 13, 14, 15, 16, 17, 18, 19, 20, 21, 22, 23, 24, 25, 26, 27, 28, 29, 30, 31, 32, 33, 34, 35, 36, 37, 38, 39, 40, 41, 42, 43, 44, 45, 46, 47, 48, 49, 50, 51, 52, 53, 54, 55, 56, 57, 58, 59, 60, 61, 62, 63, 64, 65, 66, 67, 68, 69, 70, 71, 72, 73, 74, 75, 76, 77, 78, 79, 80, 81, 82, 83, 84, 85, 86, 87, 88, 89, 90, 91, 92, 93, 94, 95, 96, 97, 98, 99, 100, 101, 102, 103, 104, 105, 106, 107, 108, 109, 110, 111, 112, 113, 114, 115, 116, 117, 118, 119, 120, 121, 122, 123, 124, 125, 126, 127, 128, 129, 130, 131, 132, 133, 134, 135, 136, 137, 138, 139, 140, 141, 142, 143, 144, 145, 146, 147, 148, 149, 150, 151, 152, 153, 154, 155, 156, 157, 158, 159, 160, 161, 162, 163, 164, 165, 166, 167, 168, 169, 170, 171, 172, 173, 174, 175, 176, 177, 178, 179, 180, 181, 182, 183, 184, 185, 186, 187, 188, 189, 190, 191, 192, 193, 194, 195, 196, 197, 198, 199, 200, 201, 202, 203, 204, 205, 206, 207, 208, 209, 210, 211, 212] (by decide +kernel) (by decide +kernel)) (goodIn_sub (fun _ h => List.mem_cons_of_mem _ (List.mem_append_left _ (List.mem_append_right _ h))) (by decide +kernel))) (goodIn_sub (fun _ h => List.mem_cons_of_mem _ (List.mem_append_right _ h)) (by decide +kernel))
set_option maxRecDepth 20000 in
theorem gL_areProducts_L_asks : GoodIn wsL_areProducts (va_wsS RL 79 yL_asks wsL_asks) := goodIn_app (goodIn_of _ (by decide +kernel)) ggL_areProducts_L_asks
set_option maxRecDepth 20000 in
theorem ggL_areProducts_X5_expected : GoodIn wsL_areProducts wsX5_expected := goodIn_ca (goodIn_r _ [159, 12, 13, 160, 161, 162, 10, 163, 62, 198, 199, 200, 201, 202, 203, 204, 179, 180, 181, 182, 183, 184, 185, 186, 187, 188, 189, 190, 191, 192] (by decide +kernel) (by decide +kernel)) (goodIn_sub (fun _ h => List.mem_cons_of_mem _ (List.mem_append_left _ (List.mem_append_right _ h))) (by decide +kernel))
set_option maxRecDepth 20000 in
theorem gL_areProducts_X5_expected : GoodIn wsL_areProducts (wsV RL 66 RX5 yX5_expected wsX5_expected) := goodIn_app (goodIn_of _ (by decide +kernel)) ggL_areProducts_X5_expected
set_option maxRecDepth 20000 in
theorem ggL_areProducts_X5_asked : GoodIn wsL_areProducts wsX5_asked := goodIn_ca (goodIn_r _ [167, 12, 13, 160, 161, 162, 10, 163, 62, 198, 199, 200, 201, 202, 203, 204, 179, 180, 181, 182, 183, 184, 185, 186, 187, 188, 189, 190, 191, 192] (by decide +kernel) (by decide +kernel)) (goodIn_sub (fun _ h => List.mem_cons_of_mem _ (List.mem_append_left _ (List.mem_append_right _ h))) (by decide +kernel))
set_option maxRecDepth 20000 in
theorem gL_areProducts_X5_asked : GoodIn wsL_areProducts (wsV RL 69 RX5 yX5_asked wsX5_asked) := goodIn_app (goodIn_of _ (by decide +kernel)) ggL_areProducts_X5_asked
set_option maxRecDepth 20000 in
theorem ggL_areProducts_X5_average : GoodIn wsL_areProducts wsX5_average := goodIn_ca (goodIn_r _ [178, 12, 13, 63, 160, 161, 162, 10, 163, 62, 179, 180, 181, 182, 183, 184, 185, 186, 187, 188, 189, 190, 191, 192, 198, 199, 200, 201, 202, 203, 204] (by decide +kernel) (by decide +kernel)) (goodIn_sub (fun _ h => List.mem_cons_of_mem _ (List.mem_append_left _ (List.mem_append_right _ h))) (by decide +kernel))
set_option maxRecDepth 20000 in
theorem gL_areProducts_X5_average : GoodIn wsL_areProducts (wsV RL 75 RX5 yX5_average wsX5_average) := goodIn_app (goodIn_of _ (by decide +kernel)) ggL_areProducts_X5_average
set_option maxRecDepth 20000 in
theorem ggL_areProducts_X5_refused : GoodIn wsL_areProducts wsX5_refused := goodIn_ca (goodIn_r _ [171, 56, 57, 172, 173, 174, 179, 180, 181, 182, 183, 184, 185, 186, 187, 188, 189, 190, 191, 192] (by decide +kernel) (by decide +kernel)) (goodIn_sub (fun _ h => List.mem_cons_of_mem _ (List.mem_append_right _ h)) (by decide +kernel))
set_option maxRecDepth 20000 in
theorem gL_areProducts_X5_refused : GoodIn wsL_areProducts (wsV RL 72 RX5 yX5_refused wsX5_refused) := goodIn_app (goodIn_of _ (by decide +kernel)) ggL_areProducts_X5_refused
theorem dL_areProducts_0 : decode cL_areProducts 0 = .ok (.aload_n 0, 1) := by decide +kernel
theorem dL_areProducts_1 : decode cL_areProducts 1 = .ok (.iconst 5, 1) := by decide +kernel
theorem dL_areProducts_2 : decode cL_areProducts 2 = .ok (.aload_n 2, 1) := by decide +kernel
theorem dL_areProducts_3 : decode cL_areProducts 3 = .ok (.iconst 4, 1) := by decide +kernel
theorem dL_areProducts_4 : decode cL_areProducts 4 = .ok (.iaload, 1) := by decide +kernel
theorem dL_areProducts_5 : decode cL_areProducts 5 = .ok (.iconst 0, 1) := by decide +kernel
theorem dL_areProducts_6 : decode cL_areProducts 6 = .ok (.iconst 0, 1) := by decide +kernel
theorem dL_areProducts_7 : decode cL_areProducts 7 = .ok (.invokestatic 79, 3) := by decide +kernel
theorem dL_areProducts_10 : decode cL_areProducts 10 = .ok (.bipush (-30), 2) := by decide +kernel
theorem dL_areProducts_12 : decode cL_areProducts 12 = .ok (.if_icmp .ne 66, 3) := by decide +kernel
theorem dL_areProducts_15 : decode cL_areProducts 15 = .ok (.aload_n 0, 1) := by decide +kernel
theorem dL_areProducts_16 : decode cL_areProducts 16 = .ok (.bipush 6, 2) := by decide +kernel
theorem dL_areProducts_18 : decode cL_areProducts 18 = .ok (.iconst (-1), 1) := by decide +kernel
theorem dL_areProducts_19 : decode cL_areProducts 19 = .ok (.iconst 0, 1) := by decide +kernel
theorem dL_areProducts_20 : decode cL_areProducts 20 = .ok (.iconst 0, 1) := by decide +kernel
theorem dL_areProducts_21 : decode cL_areProducts 21 = .ok (.invokestatic 79, 3) := by decide +kernel
theorem dL_areProducts_24 : decode cL_areProducts 24 = .ok (.bipush (-30), 2) := by decide +kernel
theorem dL_areProducts_26 : decode cL_areProducts 26 = .ok (.if_icmp .ne 52, 3) := by decide +kernel
theorem dL_areProducts_29 : decode cL_areProducts 29 = .ok (.aload_n 0, 1) := by decide +kernel
theorem dL_areProducts_30 : decode cL_areProducts 30 = .ok (.bipush 8, 2) := by decide +kernel
theorem dL_areProducts_32 : decode cL_areProducts 32 = .ok (.aload_n 2, 1) := by decide +kernel
theorem dL_areProducts_33 : decode cL_areProducts 33 = .ok (.iconst 4, 1) := by decide +kernel
theorem dL_areProducts_34 : decode cL_areProducts 34 = .ok (.iaload, 1) := by decide +kernel
theorem dL_areProducts_35 : decode cL_areProducts 35 = .ok (.iconst 0, 1) := by decide +kernel
theorem dL_areProducts_36 : decode cL_areProducts 36 = .ok (.iconst 0, 1) := by decide +kernel
theorem dL_areProducts_37 : decode cL_areProducts 37 = .ok (.invokestatic 79, 3) := by decide +kernel
theorem dL_areProducts_40 : decode cL_areProducts 40 = .ok (.bipush (-30), 2) := by decide +kernel
theorem dL_areProducts_42 : decode cL_areProducts 42 = .ok (.if_icmp .ne 36, 3) := by decide +kernel
theorem dL_areProducts_45 : decode cL_areProducts 45 = .ok (.aload_n 0, 1) := by decide +kernel
theorem dL_areProducts_46 : decode cL_areProducts 46 = .ok (.bipush 7, 2) := by decide +kernel
theorem dL_areProducts_48 : decode cL_areProducts 48 = .ok (.iconst 0, 1) := by decide +kernel
theorem dL_areProducts_49 : decode cL_areProducts 49 = .ok (.iconst 0, 1) := by decide +kernel
theorem dL_areProducts_50 : decode cL_areProducts 50 = .ok (.iconst 0, 1) := by decide +kernel
theorem dL_areProducts_51 : decode cL_areProducts 51 = .ok (.invokestatic 79, 3) := by decide +kernel
theorem dL_areProducts_54 : decode cL_areProducts 54 = .ok (.bipush (-20), 2) := by decide +kernel
theorem dL_areProducts_56 : decode cL_areProducts 56 = .ok (.if_icmp .ne 22, 3) := by decide +kernel
theorem dL_areProducts_59 : decode cL_areProducts 59 = .ok (.aload_n 0, 1) := by decide +kernel
theorem dL_areProducts_60 : decode cL_areProducts 60 = .ok (.bipush 7, 2) := by decide +kernel
theorem dL_areProducts_62 : decode cL_areProducts 62 = .ok (.bipush (-4), 2) := by decide +kernel
theorem dL_areProducts_64 : decode cL_areProducts 64 = .ok (.iconst 0, 1) := by decide +kernel
theorem dL_areProducts_65 : decode cL_areProducts 65 = .ok (.iconst 0, 1) := by decide +kernel
theorem dL_areProducts_66 : decode cL_areProducts 66 = .ok (.invokestatic 79, 3) := by decide +kernel
theorem dL_areProducts_69 : decode cL_areProducts 69 = .ok (.bipush (-20), 2) := by decide +kernel
theorem dL_areProducts_71 : decode cL_areProducts 71 = .ok (.if_icmp .ne 7, 3) := by decide +kernel
theorem dL_areProducts_74 : decode cL_areProducts 74 = .ok (.iconst 1, 1) := by decide +kernel
theorem dL_areProducts_75 : decode cL_areProducts 75 = .ok (.goto 4, 3) := by decide +kernel
theorem dL_areProducts_78 : decode cL_areProducts 78 = .ok (.iconst 0, 1) := by decide +kernel
theorem dL_areProducts_79 : decode cL_areProducts 79 = .ok (.istore_n 3, 1) := by decide +kernel
theorem dL_areProducts_80 : decode cL_areProducts 80 = .ok (.iconst 0, 1) := by decide +kernel
theorem dL_areProducts_81 : decode cL_areProducts 81 = .ok (.istore 4, 2) := by decide +kernel
theorem dL_areProducts_83 : decode cL_areProducts 83 = .ok (.iload 4, 2) := by decide +kernel
theorem dL_areProducts_85 : decode cL_areProducts 85 = .ok (.aload_n 2, 1) := by decide +kernel
theorem dL_areProducts_86 : decode cL_areProducts 86 = .ok (.iconst 4, 1) := by decide +kernel
theorem dL_areProducts_87 : decode cL_areProducts 87 = .ok (.iaload, 1) := by decide +kernel
theorem dL_areProducts_88 : decode cL_areProducts 88 = .ok (.if_icmp .ge 94, 3) := by decide +kernel
theorem dL_areProducts_91 : decode cL_areProducts 91 = .ok (.iload_n 3, 1) := by decide +kernel
theorem dL_areProducts_92 : decode cL_areProducts 92 = .ok (.ifCond .eq 90, 3) := by decide +kernel
theorem dL_areProducts_95 : decode cL_areProducts 95 = .ok (.aload_n 2, 1) := by decide +kernel
theorem dL_areProducts_96 : decode cL_areProducts 96 = .ok (.iconst 5, 1) := by decide +kernel
theorem dL_areProducts_97 : decode cL_areProducts 97 = .ok (.iaload, 1) := by decide +kernel
theorem dL_areProducts_98 : decode cL_areProducts 98 = .ok (.ifCond .ne 7, 3) := by decide +kernel
theorem dL_areProducts_101 : decode cL_areProducts 101 = .ok (.fconst 0, 1) := by decide +kernel
theorem dL_areProducts_102 : decode cL_areProducts 102 = .ok (.goto 18, 3) := by decide +kernel
theorem dL_areProducts_105 : decode cL_areProducts 105 = .ok (.aload_n 1, 1) := by decide +kernel
theorem dL_areProducts_106 : decode cL_areProducts 106 = .ok (.bipush 6, 2) := by decide +kernel
theorem dL_areProducts_108 : decode cL_areProducts 108 = .ok (.iload 4, 2) := by decide +kernel
theorem dL_areProducts_110 : decode cL_areProducts 110 = .ok (.imul, 1) := by decide +kernel
theorem dL_areProducts_111 : decode cL_areProducts 111 = .ok (.iconst 5, 1) := by decide +kernel
theorem dL_areProducts_112 : decode cL_areProducts 112 = .ok (.iadd, 1) := by decide +kernel
theorem dL_areProducts_113 : decode cL_areProducts 113 = .ok (.iaload, 1) := by decide +kernel
theorem dL_areProducts_114 : decode cL_areProducts 114 = .ok (.i2f, 1) := by decide +kernel
theorem dL_areProducts_115 : decode cL_areProducts 115 = .ok (.aload_n 2, 1) := by decide +kernel
theorem dL_areProducts_116 : decode cL_areProducts 116 = .ok (.iconst 5, 1) := by decide +kernel
theorem dL_areProducts_117 : decode cL_areProducts 117 = .ok (.iaload, 1) := by decide +kernel
theorem dL_areProducts_118 : decode cL_areProducts 118 = .ok (.i2f, 1) := by decide +kernel
theorem dL_areProducts_119 : decode cL_areProducts 119 = .ok (.fdiv, 1) := by decide +kernel
theorem dL_areProducts_120 : decode cL_areProducts 120 = .ok (.fstore 5, 2) := by decide +kernel
theorem dL_areProducts_122 : decode cL_areProducts 122 = .ok (.aload_n 0, 1) := by decide +kernel
theorem dL_areProducts_123 : decode cL_areProducts 123 = .ok (.iload 4, 2) := by decide +kernel
theorem dL_areProducts_125 : decode cL_areProducts 125 = .ok (.invokevirtual 66, 3) := by decide +kernel
theorem dL_areProducts_128 : decode cL_areProducts 128 = .ok (.aload_n 1, 1) := by decide +kernel
theorem dL_areProducts_129 : decode cL_areProducts 129 = .ok (.bipush 6, 2) := by decide +kernel
theorem dL_areProducts_131 : decode cL_areProducts 131 = .ok (.iload 4, 2) := by decide +kernel
theorem dL_areProducts_133 : decode cL_areProducts 133 = .ok (.imul, 1) := by decide +kernel
theorem dL_areProducts_134 : decode cL_areProducts 134 = .ok (.iconst 3, 1) := by decide +kernel
theorem dL_areProducts_135 : decode cL_areProducts 135 = .ok (.iadd, 1) := by decide +kernel
theorem dL_areProducts_136 : decode cL_areProducts 136 = .ok (.iaload, 1) := by decide +kernel
theorem dL_areProducts_137 : decode cL_areProducts 137 = .ok (.if_icmp .ne 37, 3) := by decide +kernel
theorem dL_areProducts_140 : decode cL_areProducts 140 = .ok (.aload_n 0, 1) := by decide +kernel
theorem dL_areProducts_141 : decode cL_areProducts 141 = .ok (.iload 4, 2) := by decide +kernel
theorem dL_areProducts_143 : decode cL_areProducts 143 = .ok (.invokevirtual 69, 3) := by decide +kernel
theorem dL_areProducts_146 : decode cL_areProducts 146 = .ok (.aload_n 1, 1) := by decide +kernel
theorem dL_areProducts_147 : decode cL_areProducts 147 = .ok (.bipush 6, 2) := by decide +kernel
theorem dL_areProducts_149 : decode cL_areProducts 149 = .ok (.iload 4, 2) := by decide +kernel
theorem dL_areProducts_151 : decode cL_areProducts 151 = .ok (.imul, 1) := by decide +kernel
theorem dL_areProducts_152 : decode cL_areProducts 152 = .ok (.iconst 4, 1) := by decide +kernel
theorem dL_areProducts_153 : decode cL_areProducts 153 = .ok (.iadd, 1) := by decide +kernel
theorem dL_areProducts_154 : decode cL_areProducts 154 = .ok (.iaload, 1) := by decide +kernel
theorem dL_areProducts_155 : decode cL_areProducts 155 = .ok (.if_icmp .ne 19, 3) := by decide +kernel
theorem dL_areProducts_158 : decode cL_areProducts 158 = .ok (.aload_n 0, 1) := by decide +kernel
theorem dL_areProducts_159 : decode cL_areProducts 159 = .ok (.iload 4, 2) := by decide +kernel
theorem dL_areProducts_161 : decode cL_areProducts 161 = .ok (.invokevirtual 75, 3) := by decide +kernel
theorem dL_areProducts_164 : decode cL_areProducts 164 = .ok (.fload 5, 2) := by decide +kernel
theorem dL_areProducts_166 : decode cL_areProducts 166 = .ok (.fcmp .l, 1) := by decide +kernel
theorem dL_areProducts_167 : decode cL_areProducts 167 = .ok (.ifCond .ne 7, 3) := by decide +kernel
theorem dL_areProducts_170 : decode cL_areProducts 170 = .ok (.iconst 1, 1) := by decide +kernel
theorem dL_areProducts_171 : decode cL_areProducts 171 = .ok (.goto 4, 3) := by decide +kernel
theorem dL_areProducts_174 : decode cL_areProducts 174 = .ok (.iconst 0, 1) := by decide +kernel
theorem dL_areProducts_175 : decode cL_areProducts 175 = .ok (.istore_n 3, 1) := by decide +kernel
theorem dL_areProducts_176 : decode cL_areProducts 176 = .ok (.iinc 4 1, 3) := by decide +kernel
theorem dL_areProducts_179 : decode cL_areProducts 179 = .ok (.goto (-96), 3) := by decide +kernel
theorem dL_areProducts_182 : decode cL_areProducts 182 = .ok (.iconst 0, 1) := by decide +kernel
theorem dL_areProducts_183 : decode cL_areProducts 183 = .ok (.istore 4, 2) := by decide +kernel
theorem dL_areProducts_185 : decode cL_areProducts 185 = .ok (.iload 4, 2) := by decide +kernel
theorem dL_areProducts_187 : decode cL_areProducts 187 = .ok (.iconst 3, 1) := by decide +kernel
theorem dL_areProducts_188 : decode cL_areProducts 188 = .ok (.if_icmp .ge 37, 3) := by decide +kernel
theorem dL_areProducts_191 : decode cL_areProducts 191 = .ok (.iload_n 3, 1) := by decide +kernel
theorem dL_areProducts_192 : decode cL_areProducts 192 = .ok (.ifCond .eq 33, 3) := by decide +kernel
theorem dL_areProducts_195 : decode cL_areProducts 195 = .ok (.aload_n 0, 1) := by decide +kernel
theorem dL_areProducts_196 : decode cL_areProducts 196 = .ok (.iconst (-1), 1) := by decide +kernel
theorem dL_areProducts_197 : decode cL_areProducts 197 = .ok (.iload 4, 2) := by decide +kernel
theorem dL_areProducts_199 : decode cL_areProducts 199 = .ok (.isub, 1) := by decide +kernel
theorem dL_areProducts_200 : decode cL_areProducts 200 = .ok (.invokevirtual 72, 3) := by decide +kernel
theorem dL_areProducts_203 : decode cL_areProducts 203 = .ok (.aload_n 2, 1) := by decide +kernel
theorem dL_areProducts_204 : decode cL_areProducts 204 = .ok (.bipush 7, 2) := by decide +kernel
theorem dL_areProducts_206 : decode cL_areProducts 206 = .ok (.iload 4, 2) := by decide +kernel
theorem dL_areProducts_208 : decode cL_areProducts 208 = .ok (.iadd, 1) := by decide +kernel
theorem dL_areProducts_209 : decode cL_areProducts 209 = .ok (.iaload, 1) := by decide +kernel
theorem dL_areProducts_210 : decode cL_areProducts 210 = .ok (.if_icmp .ne 7, 3) := by decide +kernel
theorem dL_areProducts_213 : decode cL_areProducts 213 = .ok (.iconst 1, 1) := by decide +kernel
theorem dL_areProducts_214 : decode cL_areProducts 214 = .ok (.goto 4, 3) := by decide +kernel
theorem dL_areProducts_217 : decode cL_areProducts 217 = .ok (.iconst 0, 1) := by decide +kernel
theorem dL_areProducts_218 : decode cL_areProducts 218 = .ok (.istore_n 3, 1) := by decide +kernel
theorem dL_areProducts_219 : decode cL_areProducts 219 = .ok (.iinc 4 1, 3) := by decide +kernel
theorem dL_areProducts_222 : decode cL_areProducts 222 = .ok (.goto (-37), 3) := by decide +kernel
theorem dL_areProducts_225 : decode cL_areProducts 225 = .ok (.iload_n 3, 1) := by decide +kernel
theorem dL_areProducts_226 : decode cL_areProducts 226 = .ok (.ireturn, 1) := by decide +kernel
set_option maxRecDepth 20000 in
theorem ggL_isProduct_X5_products : GoodIn wsL_isProduct wsX5_products := goodIn_r _ [5, 6, 246, 247, 248, 249, 250, 251, 252, 253, 254, 255, 256, 257, 258, 259] (by decide +kernel) (by decide +kernel)
set_option maxRecDepth 20000 in
theorem gL_isProduct_X5_products : GoodIn wsL_isProduct (wsV RL 100 RX5 yX5_products wsX5_products) := goodIn_app (goodIn_of _ (by decide +kernel)) ggL_isProduct_X5_products
set_option maxRecDepth 20000 in
theorem ggL_isProduct_L_does : GoodIn wsL_isProduct wsL_does := goodIn_ca (goodIn_ca (goodIn_ca (goodIn_r _ [10, 11, 12, 13, 14, 15, 9, 16, 17, 18, 19, 4, 20, 21, 22, 23, 24, 25, 26, 27, 28, 29, 30, 31, 32, 33, 34, 35, 36, 37, 38, 6, 39, 40, 41, 42, 43, 44, 45, 46, 47, 48, 49, 50, 51, 52, 53, 54, 55, 56, 57, 58, 59, 60, 61, 62, 63, 64, 65, 66, 67, 68, 69, 70, 71, 72, 73, 74, 75, 76, 77, 78, 79, 80, 81, 82, 83, 84, 85, 86, 87, 88, 89, 90, 91, 92, 93, 94, 95, 96, 97, 98, 99, 100, 101, 102, 103, 104, 105, 106, 107, 108, 109, 110, 111, 112, 113, 114, 115, 116, 117, 118, 119, 120, 121, 122, 123, 124, 125, 126, 127, 128, 129, 130, 131, 132, 133, 134, 135, 136, 137, 138, 139, 140, 141, 142, 143, 144, 145, 146, 147, 148, 149, 150, 151, 152, 153, 154, 155, 156, 157, 158, 159, 160, 161, 162, 163, 164, 165, 166, 167, 168, 169, 170, 171, 172, 173, 174, 175, 176, 177, 178, 179, 180, 181, 182, 183, 184, 185, 186, 187, 188, 189, 190, 191, 192, 193, 194, 195, 196, 197, 198, 199, 200, 201, 202, 203, 204, 205, 206, 207, 208, 209, 210, 211, 212, 213, 214, 215, 216, 217, 218, 219, 220, 221, 222, 223, 224, 225, 226, 227, 228, 229, 230, 231, 232, 233, 234, 235, 236, 237, 238, 239, 240, 241, 242, 243, 244, 245, 246, 247, 248, 249, 250, 251, 252, 253, 254, 255, 256, 257, 258, 259, 260, 261, 262, 263, 264, 265, 266, 267, 268, 269, 270, 271, 272, 273, 274, 275, 276, 277, 278, 279] (by decide +kernel) (by decide +kernel)) (goodIn_sub (fun _ h => List.mem_cons_of_mem _ (List.mem_append_left _ (List.mem_append_left _ (List.mem_append_right _ h)))) (by decide +kernel))) (goodIn_sub (fun _ h => List.mem_cons_of_mem _ (List.mem_append_left _ (List.mem_append_right _ h))) (by decide +kernel))) (goodIn_sub (fun _ h => List.mem_cons_of_mem _ (List.mem_append_right _ h)) (by decide +kernel))
set_option maxRecDepth 20000 in
theorem gL_isProduct_L_does : GoodIn wsL_isProduct (va_wsS RL 113 yL_does wsL_does) := goodIn_app (goodIn_of _ (by decide +kernel)) ggL_isProduct_L_does
theorem dL_isProduct_0 : decode cL_isProduct 0 = .ok (.iload 4, 2) := by decide +kernel
theorem dL_isProduct_2 : decode cL_isProduct 2 = .ok (.iconst 4, 1) := by decide +kernel
theorem dL_isProduct_3 : decode cL_isProduct 3 = .ok (.irem, 1) := by decide +kernel
theorem dL_isProduct_4 : decode cL_isProduct 4 = .ok (.istore 7, 2) := by decide +kernel
theorem dL_isProduct_6 : decode cL_isProduct 6 = .ok (.iload 5, 2) := by decide +kernel
theorem dL_isProduct_8 : decode cL_isProduct 8 = .ok (.iconst 4, 1) := by decide +kernel
theorem dL_isProduct_9 : decode cL_isProduct 9 = .ok (.irem, 1) := by decide +kernel
theorem dL_isProduct_10 : decode cL_isProduct 10 = .ok (.istore 8, 2) := by decide +kernel
theorem dL_isProduct_12 : decode cL_isProduct 12 = .ok (.iload 6, 2) := by decide +kernel
theorem dL_isProduct_14 : decode cL_isProduct 14 = .ok (.bipush 25, 2) := by decide +kernel
theorem dL_isProduct_16 : decode cL_isProduct 16 = .ok (.irem, 1) := by decide +kernel
theorem dL_isProduct_17 : decode cL_isProduct 17 = .ok (.ifCond .ne 9, 3) := by decide +kernel
theorem dL_isProduct_20 : decode cL_isProduct 20 = .ok (.sipush 1001, 3) := by decide +kernel
theorem dL_isProduct_23 : decode cL_isProduct 23 = .ok (.goto 13, 3) := by decide +kernel
theorem dL_isProduct_26 : decode cL_isProduct 26 = .ok (.iconst 1, 1) := by decide +kernel
theorem dL_isProduct_27 : decode cL_isProduct 27 = .ok (.iload 6, 2) := by decide +kernel
theorem dL_isProduct_29 : decode cL_isProduct 29 = .ok (.bipush 6, 2) := by decide +kernel
theorem dL_isProduct_31 : decode cL_isProduct 31 = .ok (.irem, 1) := by decide +kernel
theorem dL_isProduct_32 : decode cL_isProduct 32 = .ok (.bipush 40, 2) := by decide +kernel
theorem dL_isProduct_34 : decode cL_isProduct 34 = .ok (.imul, 1) := by decide +kernel
theorem dL_isProduct_35 : decode cL_isProduct 35 = .ok (.iadd, 1) := by decide +kernel
theorem dL_isProduct_36 : decode cL_isProduct 36 = .ok (.istore 9, 2) := by decide +kernel
theorem dL_isProduct_38 : decode cL_isProduct 38 = .ok (.iload 7, 2) := by decide +kernel
theorem dL_isProduct_40 : decode cL_isProduct 40 = .ok (.iconst 3, 1) := by decide +kernel
theorem dL_isProduct_41 : decode cL_isProduct 41 = .ok (.if_icmp .ge 13, 3) := by decide +kernel
theorem dL_isProduct_44 : decode cL_isProduct 44 = .ok (.iload 8, 2) := by decide +kernel
theorem dL_isProduct_46 : decode cL_isProduct 46 = .ok (.iconst 3, 1) := by decide +kernel
theorem dL_isProduct_47 : decode cL_isProduct 47 = .ok (.if_icmp .ge 7, 3) := by decide +kernel
theorem dL_isProduct_50 : decode cL_isProduct 50 = .ok (.iconst 1, 1) := by decide +kernel
theorem dL_isProduct_51 : decode cL_isProduct 51 = .ok (.goto 4, 3) := by decide +kernel
theorem dL_isProduct_54 : decode cL_isProduct 54 = .ok (.iconst 0, 1) := by decide +kernel
theorem dL_isProduct_55 : decode cL_isProduct 55 = .ok (.istore 10, 2) := by decide +kernel
theorem dL_isProduct_57 : decode cL_isProduct 57 = .ok (.iload 8, 2) := by decide +kernel
theorem dL_isProduct_59 : decode cL_isProduct 59 = .ok (.iload 7, 2) := by decide +kernel
theorem dL_isProduct_61 : decode cL_isProduct 61 = .ok (.if_icmp .lt 15, 3) := by decide +kernel
theorem dL_isProduct_64 : decode cL_isProduct 64 = .ok (.iload 9, 2) := by decide +kernel
theorem dL_isProduct_66 : decode cL_isProduct 66 = .ok (.sipush 1001, 3) := by decide +kernel
theorem dL_isProduct_69 : decode cL_isProduct 69 = .ok (.if_icmp .ge 7, 3) := by decide +kernel
theorem dL_isProduct_72 : decode cL_isProduct 72 = .ok (.iconst 1, 1) := by decide +kernel
theorem dL_isProduct_73 : decode cL_isProduct 73 = .ok (.goto 4, 3) := by decide +kernel
theorem dL_isProduct_76 : decode cL_isProduct 76 = .ok (.iconst 0, 1) := by decide +kernel
theorem dL_isProduct_77 : decode cL_isProduct 77 = .ok (.istore 11, 2) := by decide +kernel
theorem dL_isProduct_79 : decode cL_isProduct 79 = .ok (.iconst 0, 1) := by decide +kernel
theorem dL_isProduct_80 : decode cL_isProduct 80 = .ok (.istore 12, 2) := by decide +kernel
theorem dL_isProduct_82 : decode cL_isProduct 82 = .ok (.iconst 0, 1) := by decide +kernel
theorem dL_isProduct_83 : decode cL_isProduct 83 = .ok (.istore 13, 2) := by decide +kernel
theorem dL_isProduct_85 : decode cL_isProduct 85 = .ok (.iload 13, 2) := by decide +kernel
theorem dL_isProduct_87 : decode cL_isProduct 87 = .ok (.aload_n 3, 1) := by decide +kernel
theorem dL_isProduct_88 : decode cL_isProduct 88 = .ok (.iconst 4, 1) := by decide +kernel
theorem dL_isProduct_89 : decode cL_isProduct 89 = .ok (.iaload, 1) := by decide +kernel
theorem dL_isProduct_90 : decode cL_isProduct 90 = .ok (.if_icmp .ge 61, 3) := by decide +kernel
theorem dL_isProduct_93 : decode cL_isProduct 93 = .ok (.iload 12, 2) := by decide +kernel
theorem dL_isProduct_95 : decode cL_isProduct 95 = .ok (.ifCond .ne 43, 3) := by decide +kernel
theorem dL_isProduct_98 : decode cL_isProduct 98 = .ok (.aload_n 1, 1) := by decide +kernel
theorem dL_isProduct_99 : decode cL_isProduct 99 = .ok (.bipush 6, 2) := by decide +kernel
theorem dL_isProduct_101 : decode cL_isProduct 101 = .ok (.iload 13, 2) := by decide +kernel
theorem dL_isProduct_103 : decode cL_isProduct 103 = .ok (.imul, 1) := by decide +kernel
theorem dL_isProduct_104 : decode cL_isProduct 104 = .ok (.iaload, 1) := by decide +kernel
theorem dL_isProduct_105 : decode cL_isProduct 105 = .ok (.iload 7, 2) := by decide +kernel
theorem dL_isProduct_107 : decode cL_isProduct 107 = .ok (.if_icmp .ne 35, 3) := by decide +kernel
theorem dL_isProduct_110 : decode cL_isProduct 110 = .ok (.aload_n 1, 1) := by decide +kernel
theorem dL_isProduct_111 : decode cL_isProduct 111 = .ok (.bipush 6, 2) := by decide +kernel
theorem dL_isProduct_113 : decode cL_isProduct 113 = .ok (.iload 13, 2) := by decide +kernel
theorem dL_isProduct_115 : decode cL_isProduct 115 = .ok (.imul, 1) := by decide +kernel
theorem dL_isProduct_116 : decode cL_isProduct 116 = .ok (.iconst 1, 1) := by decide +kernel
theorem dL_isProduct_117 : decode cL_isProduct 117 = .ok (.iadd, 1) := by decide +kernel
theorem dL_isProduct_118 : decode cL_isProduct 118 = .ok (.iaload, 1) := by decide +kernel
theorem dL_isProduct_119 : decode cL_isProduct 119 = .ok (.iload 8, 2) := by decide +kernel
theorem dL_isProduct_121 : decode cL_isProduct 121 = .ok (.if_icmp .ne 21, 3) := by decide +kernel
theorem dL_isProduct_124 : decode cL_isProduct 124 = .ok (.aload_n 1, 1) := by decide +kernel
theorem dL_isProduct_125 : decode cL_isProduct 125 = .ok (.bipush 6, 2) := by decide +kernel
theorem dL_isProduct_127 : decode cL_isProduct 127 = .ok (.iload 13, 2) := by decide +kernel
theorem dL_isProduct_129 : decode cL_isProduct 129 = .ok (.imul, 1) := by decide +kernel
theorem dL_isProduct_130 : decode cL_isProduct 130 = .ok (.iconst 2, 1) := by decide +kernel
theorem dL_isProduct_131 : decode cL_isProduct 131 = .ok (.iadd, 1) := by decide +kernel
theorem dL_isProduct_132 : decode cL_isProduct 132 = .ok (.iaload, 1) := by decide +kernel
theorem dL_isProduct_133 : decode cL_isProduct 133 = .ok (.iload 9, 2) := by decide +kernel
theorem dL_isProduct_135 : decode cL_isProduct 135 = .ok (.if_icmp .ne 7, 3) := by decide +kernel
theorem dL_isProduct_138 : decode cL_isProduct 138 = .ok (.iconst 1, 1) := by decide +kernel
theorem dL_isProduct_139 : decode cL_isProduct 139 = .ok (.goto 4, 3) := by decide +kernel
theorem dL_isProduct_142 : decode cL_isProduct 142 = .ok (.iconst 0, 1) := by decide +kernel
theorem dL_isProduct_143 : decode cL_isProduct 143 = .ok (.istore 12, 2) := by decide +kernel
theorem dL_isProduct_145 : decode cL_isProduct 145 = .ok (.iinc 13 1, 3) := by decide +kernel
theorem dL_isProduct_148 : decode cL_isProduct 148 = .ok (.goto (-63), 3) := by decide +kernel
theorem dL_isProduct_151 : decode cL_isProduct 151 = .ok (.iload 10, 2) := by decide +kernel
theorem dL_isProduct_153 : decode cL_isProduct 153 = .ok (.ifCond .eq 36, 3) := by decide +kernel
theorem dL_isProduct_156 : decode cL_isProduct 156 = .ok (.iload 11, 2) := by decide +kernel
theorem dL_isProduct_158 : decode cL_isProduct 158 = .ok (.ifCond .eq 31, 3) := by decide +kernel
theorem dL_isProduct_161 : decode cL_isProduct 161 = .ok (.iload 12, 2) := by decide +kernel
theorem dL_isProduct_163 : decode cL_isProduct 163 = .ok (.ifCond .ne 26, 3) := by decide +kernel
theorem dL_isProduct_166 : decode cL_isProduct 166 = .ok (.aload_n 3, 1) := by decide +kernel
theorem dL_isProduct_167 : decode cL_isProduct 167 = .ok (.iconst 4, 1) := by decide +kernel
theorem dL_isProduct_168 : decode cL_isProduct 168 = .ok (.iaload, 1) := by decide +kernel
theorem dL_isProduct_169 : decode cL_isProduct 169 = .ok (.bipush 6, 2) := by decide +kernel
theorem dL_isProduct_171 : decode cL_isProduct 171 = .ok (.if_icmp .ne 18, 3) := by decide +kernel
theorem dL_isProduct_174 : decode cL_isProduct 174 = .ok (.aload_n 0, 1) := by decide +kernel
theorem dL_isProduct_175 : decode cL_isProduct 175 = .ok (.invokevirtual 100, 3) := by decide +kernel
theorem dL_isProduct_178 : decode cL_isProduct 178 = .ok (.bipush 6, 2) := by decide +kernel
theorem dL_isProduct_180 : decode cL_isProduct 180 = .ok (.if_icmp .ne 7, 3) := by decide +kernel
theorem dL_isProduct_183 : decode cL_isProduct 183 = .ok (.iconst 1, 1) := by decide +kernel
theorem dL_isProduct_184 : decode cL_isProduct 184 = .ok (.goto 4, 3) := by decide +kernel
theorem dL_isProduct_187 : decode cL_isProduct 187 = .ok (.iconst 0, 1) := by decide +kernel
theorem dL_isProduct_188 : decode cL_isProduct 188 = .ok (.ireturn, 1) := by decide +kernel
theorem dL_isProduct_189 : decode cL_isProduct 189 = .ok (.iload 10, 2) := by decide +kernel
theorem dL_isProduct_191 : decode cL_isProduct 191 = .ok (.ifCond .ne 8, 3) := by decide +kernel
theorem dL_isProduct_194 : decode cL_isProduct 194 = .ok (.bipush (-30), 2) := by decide +kernel
theorem dL_isProduct_196 : decode cL_isProduct 196 = .ok (.goto 26, 3) := by decide +kernel
theorem dL_isProduct_199 : decode cL_isProduct 199 = .ok (.iload 11, 2) := by decide +kernel
theorem dL_isProduct_201 : decode cL_isProduct 201 = .ok (.ifCond .ne 8, 3) := by decide +kernel
theorem dL_isProduct_204 : decode cL_isProduct 204 = .ok (.bipush (-20), 2) := by decide +kernel
theorem dL_isProduct_206 : decode cL_isProduct 206 = .ok (.goto 16, 3) := by decide +kernel
theorem dL_isProduct_209 : decode cL_isProduct 209 = .ok (.iload 12, 2) := by decide +kernel
theorem dL_isProduct_211 : decode cL_isProduct 211 = .ok (.ifCond .eq 8, 3) := by decide +kernel
theorem dL_isProduct_214 : decode cL_isProduct 214 = .ok (.bipush (-10), 2) := by decide +kernel
theorem dL_isProduct_216 : decode cL_isProduct 216 = .ok (.goto 6, 3) := by decide +kernel
theorem dL_isProduct_219 : decode cL_isProduct 219 = .ok (.aload_n 3, 1) := by decide +kernel
theorem dL_isProduct_220 : decode cL_isProduct 220 = .ok (.iconst 4, 1) := by decide +kernel
theorem dL_isProduct_221 : decode cL_isProduct 221 = .ok (.iaload, 1) := by decide +kernel
theorem dL_isProduct_222 : decode cL_isProduct 222 = .ok (.istore 13, 2) := by decide +kernel
theorem dL_isProduct_224 : decode cL_isProduct 224 = .ok (.iload 13, 2) := by decide +kernel
theorem dL_isProduct_226 : decode cL_isProduct 226 = .ok (.ifCond .lt 87, 3) := by decide +kernel
theorem dL_isProduct_229 : decode cL_isProduct 229 = .ok (.bipush 6, 2) := by decide +kernel
theorem dL_isProduct_231 : decode cL_isProduct 231 = .ok (.iload 13, 2) := by decide +kernel
theorem dL_isProduct_233 : decode cL_isProduct 233 = .ok (.imul, 1) := by decide +kernel
theorem dL_isProduct_234 : decode cL_isProduct 234 = .ok (.istore 14, 2) := by decide +kernel
theorem dL_isProduct_236 : decode cL_isProduct 236 = .ok (.aload_n 1, 1) := by decide +kernel
theorem dL_isProduct_237 : decode cL_isProduct 237 = .ok (.iload 14, 2) := by decide +kernel
theorem dL_isProduct_239 : decode cL_isProduct 239 = .ok (.iload 7, 2) := by decide +kernel
theorem dL_isProduct_241 : decode cL_isProduct 241 = .ok (.iastore, 1) := by decide +kernel
theorem dL_isProduct_242 : decode cL_isProduct 242 = .ok (.aload_n 1, 1) := by decide +kernel
theorem dL_isProduct_243 : decode cL_isProduct 243 = .ok (.iload 14, 2) := by decide +kernel
theorem dL_isProduct_245 : decode cL_isProduct 245 = .ok (.iconst 1, 1) := by decide +kernel
theorem dL_isProduct_246 : decode cL_isProduct 246 = .ok (.iadd, 1) := by decide +kernel
theorem dL_isProduct_247 : decode cL_isProduct 247 = .ok (.iload 8, 2) := by decide +kernel
theorem dL_isProduct_249 : decode cL_isProduct 249 = .ok (.iastore, 1) := by decide +kernel
theorem dL_isProduct_250 : decode cL_isProduct 250 = .ok (.aload_n 1, 1) := by decide +kernel
theorem dL_isProduct_251 : decode cL_isProduct 251 = .ok (.iload 14, 2) := by decide +kernel
theorem dL_isProduct_253 : decode cL_isProduct 253 = .ok (.iconst 2, 1) := by decide +kernel
theorem dL_isProduct_254 : decode cL_isProduct 254 = .ok (.iadd, 1) := by decide +kernel
theorem dL_isProduct_255 : decode cL_isProduct 255 = .ok (.iload 9, 2) := by decide +kernel
theorem dL_isProduct_257 : decode cL_isProduct 257 = .ok (.iastore, 1) := by decide +kernel
theorem dL_isProduct_258 : decode cL_isProduct 258 = .ok (.aload_n 1, 1) := by decide +kernel
theorem dL_isProduct_259 : decode cL_isProduct 259 = .ok (.iload 14, 2) := by decide +kernel
theorem dL_isProduct_261 : decode cL_isProduct 261 = .ok (.iconst 3, 1) := by decide +kernel
theorem dL_isProduct_262 : decode cL_isProduct 262 = .ok (.iadd, 1) := by decide +kernel
theorem dL_isProduct_263 : decode cL_isProduct 263 = .ok (.iconst 0, 1) := by decide +kernel
theorem dL_isProduct_264 : decode cL_isProduct 264 = .ok (.iastore, 1) := by decide +kernel
theorem dL_isProduct_265 : decode cL_isProduct 265 = .ok (.aload_n 1, 1) := by decide +kernel
theorem dL_isProduct_266 : decode cL_isProduct 266 = .ok (.iload 14, 2) := by decide +kernel
theorem dL_isProduct_268 : decode cL_isProduct 268 = .ok (.iconst 4, 1) := by decide +kernel
theorem dL_isProduct_269 : decode cL_isProduct 269 = .ok (.iadd, 1) := by decide +kernel
theorem dL_isProduct_270 : decode cL_isProduct 270 = .ok (.iconst 0, 1) := by decide +kernel
theorem dL_isProduct_271 : decode cL_isProduct 271 = .ok (.iastore, 1) := by decide +kernel
theorem dL_isProduct_272 : decode cL_isProduct 272 = .ok (.aload_n 1, 1) := by decide +kernel
theorem dL_isProduct_273 : decode cL_isProduct 273 = .ok (.iload 14, 2) := by decide +kernel
theorem dL_isProduct_275 : decode cL_isProduct 275 = .ok (.iconst 5, 1) := by decide +kernel
theorem dL_isProduct_276 : decode cL_isProduct 276 = .ok (.iadd, 1) := by decide +kernel
theorem dL_isProduct_277 : decode cL_isProduct 277 = .ok (.iconst 0, 1) := by decide +kernel
theorem dL_isProduct_278 : decode cL_isProduct 278 = .ok (.iastore, 1) := by decide +kernel
theorem dL_isProduct_279 : decode cL_isProduct 279 = .ok (.iconst 0, 1) := by decide +kernel
theorem dL_isProduct_280 : decode cL_isProduct 280 = .ok (.istore 15, 2) := by decide +kernel
theorem dL_isProduct_282 : decode cL_isProduct 282 = .ok (.iload 15, 2) := by decide +kernel
theorem dL_isProduct_284 : decode cL_isProduct 284 = .ok (.bipush 10, 2) := by decide +kernel
theorem dL_isProduct_286 : decode cL_isProduct 286 = .ok (.if_icmp .ge 20, 3) := by decide +kernel
theorem dL_isProduct_289 : decode cL_isProduct 289 = .ok (.aload_n 2, 1) := by decide +kernel
theorem dL_isProduct_290 : decode cL_isProduct 290 = .ok (.bipush 10, 2) := by decide +kernel
theorem dL_isProduct_292 : decode cL_isProduct 292 = .ok (.iload 13, 2) := by decide +kernel
theorem dL_isProduct_294 : decode cL_isProduct 294 = .ok (.imul, 1) := by decide +kernel
theorem dL_isProduct_295 : decode cL_isProduct 295 = .ok (.iload 15, 2) := by decide +kernel
theorem dL_isProduct_297 : decode cL_isProduct 297 = .ok (.iadd, 1) := by decide +kernel
theorem dL_isProduct_298 : decode cL_isProduct 298 = .ok (.iconst 0, 1) := by decide +kernel
theorem dL_isProduct_299 : decode cL_isProduct 299 = .ok (.iastore, 1) := by decide +kernel
theorem dL_isProduct_300 : decode cL_isProduct 300 = .ok (.iinc 15 1, 3) := by decide +kernel
theorem dL_isProduct_303 : decode cL_isProduct 303 = .ok (.goto (-21), 3) := by decide +kernel
theorem dL_isProduct_306 : decode cL_isProduct 306 = .ok (.aload_n 3, 1) := by decide +kernel
theorem dL_isProduct_307 : decode cL_isProduct 307 = .ok (.iconst 4, 1) := by decide +kernel
theorem dL_isProduct_308 : decode cL_isProduct 308 = .ok (.dup2, 1) := by decide +kernel
theorem dL_isProduct_309 : decode cL_isProduct 309 = .ok (.iaload, 1) := by decide +kernel
theorem dL_isProduct_310 : decode cL_isProduct 310 = .ok (.iconst 1, 1) := by decide +kernel
theorem dL_isProduct_311 : decode cL_isProduct 311 = .ok (.iadd, 1) := by decide +kernel
theorem dL_isProduct_312 : decode cL_isProduct 312 = .ok (.iastore, 1) := by decide +kernel
theorem dL_isProduct_313 : decode cL_isProduct 313 = .ok (.aload_n 0, 1) := by decide +kernel
theorem dL_isProduct_314 : decode cL_isProduct 314 = .ok (.iconst 1, 1) := by decide +kernel
theorem dL_isProduct_315 : decode cL_isProduct 315 = .ok (.iload 7, 2) := by decide +kernel
theorem dL_isProduct_317 : decode cL_isProduct 317 = .ok (.iload 8, 2) := by decide +kernel
theorem dL_isProduct_319 : decode cL_isProduct 319 = .ok (.iload 9, 2) := by decide +kernel
theorem dL_isProduct_321 : decode cL_isProduct 321 = .ok (.iconst 0, 1) := by decide +kernel
theorem dL_isProduct_322 : decode cL_isProduct 322 = .ok (.invokestatic 113, 3) := by decide +kernel
theorem dL_isProduct_325 : decode cL_isProduct 325 = .ok (.iload 13, 2) := by decide +kernel
theorem dL_isProduct_327 : decode cL_isProduct 327 = .ok (.if_icmp .ne 7, 3) := by decide +kernel
theorem dL_isProduct_330 : decode cL_isProduct 330 = .ok (.iconst 1, 1) := by decide +kernel
theorem dL_isProduct_331 : decode cL_isProduct 331 = .ok (.goto 4, 3) := by decide +kernel
theorem dL_isProduct_334 : decode cL_isProduct 334 = .ok (.iconst 0, 1) := by decide +kernel
theorem dL_isProduct_335 : decode cL_isProduct 335 = .ok (.ireturn, 1) := by decide +kernel
theorem dL_books_0 : decode cL_books 0 = .ok (.aload_n 0, 1) := by decide +kernel
theorem dL_books_1 : decode cL_books 1 = .ok (.aload_n 1, 1) := by decide +kernel
theorem dL_books_2 : decode cL_books 2 = .ok (.bipush 6, 2) := by decide +kernel
theorem dL_books_4 : decode cL_books 4 = .ok (.iaload, 1) := by decide +kernel
theorem dL_books_5 : decode cL_books 5 = .ok (.sipush 1000, 3) := by decide +kernel
theorem dL_books_8 : decode cL_books 8 = .ok (.iload_n 2, 1) := by decide +kernel
theorem dL_books_9 : decode cL_books 9 = .ok (.imul, 1) := by decide +kernel
theorem dL_books_10 : decode cL_books 10 = .ok (.bipush 100, 2) := by decide +kernel
theorem dL_books_12 : decode cL_books 12 = .ok (.iload_n 3, 1) := by decide +kernel
theorem dL_books_13 : decode cL_books 13 = .ok (.imul, 1) := by decide +kernel
theorem dL_books_14 : decode cL_books 14 = .ok (.iadd, 1) := by decide +kernel
theorem dL_books_15 : decode cL_books 15 = .ok (.iload 4, 2) := by decide +kernel
theorem dL_books_17 : decode cL_books 17 = .ok (.iadd, 1) := by decide +kernel
theorem dL_books_18 : decode cL_books 18 = .ok (.iastore, 1) := by decide +kernel
theorem dL_books_19 : decode cL_books 19 = .ok (.aload_n 0, 1) := by decide +kernel
theorem dL_books_20 : decode cL_books 20 = .ok (.bipush 20, 2) := by decide +kernel
theorem dL_books_22 : decode cL_books 22 = .ok (.aload_n 1, 1) := by decide +kernel
theorem dL_books_23 : decode cL_books 23 = .ok (.bipush 6, 2) := by decide +kernel
theorem dL_books_25 : decode cL_books 25 = .ok (.iaload, 1) := by decide +kernel
theorem dL_books_26 : decode cL_books 26 = .ok (.iadd, 1) := by decide +kernel
theorem dL_books_27 : decode cL_books 27 = .ok (.iload 5, 2) := by decide +kernel
theorem dL_books_29 : decode cL_books 29 = .ok (.iastore, 1) := by decide +kernel
theorem dL_books_30 : decode cL_books 30 = .ok (.aload_n 1, 1) := by decide +kernel
theorem dL_books_31 : decode cL_books 31 = .ok (.bipush 6, 2) := by decide +kernel
theorem dL_books_33 : decode cL_books 33 = .ok (.dup2, 1) := by decide +kernel
theorem dL_books_34 : decode cL_books 34 = .ok (.iaload, 1) := by decide +kernel
theorem dL_books_35 : decode cL_books 35 = .ok (.iconst 1, 1) := by decide +kernel
theorem dL_books_36 : decode cL_books 36 = .ok (.iadd, 1) := by decide +kernel
theorem dL_books_37 : decode cL_books 37 = .ok (.iastore, 1) := by decide +kernel
theorem dL_books_38 : decode cL_books 38 = .ok (.return_, 1) := by decide +kernel
set_option maxRecDepth 20000 in
theorem ggL_isAsked_L_does : GoodIn wsL_isAsked wsL_does := goodIn_ca (goodIn_ca (goodIn_ca (goodIn_r _ [4, 5, 6, 7, 8, 9, 3, 10, 11, 12, 13, 14, 15, 16, 17, 18, 19, 20, 21, 22, 23, 24, 25, 26, 27, 28, 29, 30, 31, 32, 33, 34, 35, 36, 37, 38, 39, 40, 41, 42, 43, 44, 45, 46, 47, 48, 49, 50, 51, 52, 53, 54, 55, 56, 57, 58, 59, 60, 61, 62, 63, 64, 65, 66, 67, 68, 69, 70, 71, 72, 73, 74, 75, 76, 77, 78, 79, 80, 81, 82, 83, 84, 85, 86, 87, 88, 89, 90, 91, 92, 93, 94, 95, 96, 97, 98, 99, 100, 101, 102, 103, 104, 105, 106, 107, 108, 109, 110, 111, 112, 113, 114, 115, 116, 117, 118, 119, 120, 121, 122, 123, 124, 125, 126, 127, 128, 129, 130, 131, 132, 133, 134, 135, 136, 137, 138, 139, 140, 141, 142, 143, 144, 145, 146, 147, 148, 149, 150, 151, 152, 153, 154, 155, 156, 157, 158, 159, 160, 161, 162, 163, 164, 165, 166, 167, 168, 169, 170, 171, 172, 173, 174, 175, 176, 177, 178, 179, 180, 181, 182, 183, 184, 185, 186, 187, 188, 189, 190, 191, 192, 193, 194, 195, 196, 197, 198, 199, 200, 201, 202, 203, 204, 205, 206, 207, 208, 209, 210, 211, 212, 213, 214, 215, 216, 217, 218, 219, 220, 221, 222, 223, 224, 225, 226, 227, 228, 229, 230, 231, 232, 233, 234, 235, 236, 237, 238, 239, 240, 241, 258, 259, 260, 261, 262, 263, 264, 265, 266, 267, 268, 269, 270, 271, 272, 273, 274, 275, 276, 277, 278, 279, 280, 281, 282, 283, 284, 285, 286, 287, 288, 289, 290, 291] (by decide +kernel) (by decide +kernel)) (goodIn_sub (fun _ h => List.mem_cons_of_mem _ (List.mem_append_left _ (List.mem_append_left _ (List.mem_append_right _ h)))) (by decide +kernel))) (goodIn_sub (fun _ h => List.mem_cons_of_mem _ (List.mem_append_left _ (List.mem_append_right _ h))) (by decide +kernel))) (goodIn_sub (fun _ h => List.mem_cons_of_mem _ (List.mem_append_right _ h)) (by decide +kernel))
set_option maxRecDepth 20000 in
theorem gL_isAsked_L_does : GoodIn wsL_isAsked (va_wsS RL 113 yL_does wsL_does) := goodIn_app (goodIn_of _ (by decide +kernel)) ggL_isAsked_L_does
set_option maxRecDepth 20000 in
theorem ggL_isAsked_L_authorised : GoodIn wsL_isAsked wsL_authorised := goodIn_r _ [244] (by decide +kernel) (by decide +kernel)
set_option maxRecDepth 20000 in
theorem gL_isAsked_L_authorised : GoodIn wsL_isAsked (va_wsS RL 106 yL_authorised wsL_authorised) := goodIn_app (goodIn_of _ (by decide +kernel)) ggL_isAsked_L_authorised
set_option maxRecDepth 20000 in
theorem ggL_isAsked_L_booked : GoodIn wsL_isAsked wsL_booked := goodIn_r _ [247] (by decide +kernel) (by decide +kernel)
set_option maxRecDepth 20000 in
theorem gL_isAsked_L_booked : GoodIn wsL_isAsked (va_wsS RL 103 yL_booked wsL_booked) := goodIn_app (goodIn_of _ (by decide +kernel)) ggL_isAsked_L_booked
set_option maxRecDepth 20000 in
theorem ggL_isAsked_L_guarded : GoodIn wsL_isAsked wsL_guarded := goodIn_r _ [250] (by decide +kernel) (by decide +kernel)
set_option maxRecDepth 20000 in
theorem gL_isAsked_L_guarded : GoodIn wsL_isAsked (va_wsS RL 109 yL_guarded wsL_guarded) := goodIn_app (goodIn_of _ (by decide +kernel)) ggL_isAsked_L_guarded
set_option maxRecDepth 20000 in
theorem ggL_isAsked_X5_bid : GoodIn wsL_isAsked wsX5_bid := goodIn_ca (goodIn_r _ [254, 30, 31, 39, 40, 14, 41, 18, 19, 20, 135, 136, 137, 138, 139, 140, 141, 142, 143, 64, 144, 145, 146, 147, 148, 149, 150, 151, 152, 153, 154, 155, 156, 157, 158, 159, 160, 161, 37, 162, 163, 54, 55, 164, 165, 166, 167, 168, 169, 170, 171, 172, 173, 174, 175, 176, 177, 178, 110, 111, 112, 113, 25, 90, 91, 92, 93, 82, 94, 95, 96, 97, 98, 99, 85, 100, 101, 102, 103, 104, 105, 179, 180, 181, 182, 183, 184, 185, 186, 187, 188, 189, 190, 191, 192, 193, 194, 195, 196, 258, 259, 260, 261, 262, 263, 264, 265, 266, 267, 268, 269, 270, 271, 284, 285, 286, 287, 288, 289, 290, 291, 272, 273, 274, 275, 276, 277, 278, 279, 280, 281, 282, 283] (by decide +kernel) (by decide +kernel)) (goodIn_sub (fun _ h => List.mem_cons_of_mem _ (List.mem_append_left _ (List.mem_append_right _ h))) (by decide +kernel))
set_option maxRecDepth 20000 in
theorem gL_isAsked_X5_bid : GoodIn wsL_isAsked (wsV RL 60 RX5 yX5_bid wsX5_bid) := goodIn_app (goodIn_of _ (by decide +kernel)) ggL_isAsked_X5_bid
set_option maxRecDepth 20000 in
theorem ggL_isAsked_L_books : GoodIn wsL_isAsked wsL_books := goodIn_r _ [257] (by decide +kernel) (by decide +kernel)
set_option maxRecDepth 20000 in
theorem gL_isAsked_L_books : GoodIn wsL_isAsked (va_wsS RL 117 yL_books wsL_books) := goodIn_app (goodIn_of _ (by decide +kernel)) ggL_isAsked_L_books
theorem dL_isAsked_0 : decode cL_isAsked 0 = .ok (.iload 5, 2) := by decide +kernel
theorem dL_isAsked_2 : decode cL_isAsked 2 = .ok (.aload 4, 2) := by decide +kernel
theorem dL_isAsked_4 : decode cL_isAsked 4 = .ok (.iconst 4, 1) := by decide +kernel
theorem dL_isAsked_5 : decode cL_isAsked 5 = .ok (.iaload, 1) := by decide +kernel
theorem dL_isAsked_6 : decode cL_isAsked 6 = .ok (.if_icmp .ne 24, 3) := by decide +kernel
theorem dL_isAsked_9 : decode cL_isAsked 9 = .ok (.aload_n 0, 1) := by decide +kernel
theorem dL_isAsked_10 : decode cL_isAsked 10 = .ok (.iconst 4, 1) := by decide +kernel
theorem dL_isAsked_11 : decode cL_isAsked 11 = .ok (.iload 5, 2) := by decide +kernel
theorem dL_isAsked_13 : decode cL_isAsked 13 = .ok (.iconst 0, 1) := by decide +kernel
theorem dL_isAsked_14 : decode cL_isAsked 14 = .ok (.iconst 0, 1) := by decide +kernel
theorem dL_isAsked_15 : decode cL_isAsked 15 = .ok (.iconst 0, 1) := by decide +kernel
theorem dL_isAsked_16 : decode cL_isAsked 16 = .ok (.invokestatic 113, 3) := by decide +kernel
theorem dL_isAsked_19 : decode cL_isAsked 19 = .ok (.bipush (-30), 2) := by decide +kernel
theorem dL_isAsked_21 : decode cL_isAsked 21 = .ok (.if_icmp .ne 7, 3) := by decide +kernel
theorem dL_isAsked_24 : decode cL_isAsked 24 = .ok (.iconst 1, 1) := by decide +kernel
theorem dL_isAsked_25 : decode cL_isAsked 25 = .ok (.goto 4, 3) := by decide +kernel
theorem dL_isAsked_28 : decode cL_isAsked 28 = .ok (.iconst 0, 1) := by decide +kernel
theorem dL_isAsked_29 : decode cL_isAsked 29 = .ok (.ireturn, 1) := by decide +kernel
theorem dL_isAsked_30 : decode cL_isAsked 30 = .ok (.bipush 6, 2) := by decide +kernel
theorem dL_isAsked_32 : decode cL_isAsked 32 = .ok (.iload 5, 2) := by decide +kernel
theorem dL_isAsked_34 : decode cL_isAsked 34 = .ok (.imul, 1) := by decide +kernel
theorem dL_isAsked_35 : decode cL_isAsked 35 = .ok (.istore 6, 2) := by decide +kernel
theorem dL_isAsked_37 : decode cL_isAsked 37 = .ok (.aload_n 0, 1) := by decide +kernel
theorem dL_isAsked_38 : decode cL_isAsked 38 = .ok (.iconst 4, 1) := by decide +kernel
theorem dL_isAsked_39 : decode cL_isAsked 39 = .ok (.iload 5, 2) := by decide +kernel
theorem dL_isAsked_41 : decode cL_isAsked 41 = .ok (.iconst 0, 1) := by decide +kernel
theorem dL_isAsked_42 : decode cL_isAsked 42 = .ok (.iconst 0, 1) := by decide +kernel
theorem dL_isAsked_43 : decode cL_isAsked 43 = .ok (.iconst 0, 1) := by decide +kernel
theorem dL_isAsked_44 : decode cL_isAsked 44 = .ok (.invokestatic 113, 3) := by decide +kernel
theorem dL_isAsked_47 : decode cL_isAsked 47 = .ok (.istore 7, 2) := by decide +kernel
theorem dL_isAsked_49 : decode cL_isAsked 49 = .ok (.aload_n 1, 1) := by decide +kernel
theorem dL_isAsked_50 : decode cL_isAsked 50 = .ok (.iload 6, 2) := by decide +kernel
theorem dL_isAsked_52 : decode cL_isAsked 52 = .ok (.iconst 4, 1) := by decide +kernel
theorem dL_isAsked_53 : decode cL_isAsked 53 = .ok (.iadd, 1) := by decide +kernel
theorem dL_isAsked_54 : decode cL_isAsked 54 = .ok (.dup2, 1) := by decide +kernel
theorem dL_isAsked_55 : decode cL_isAsked 55 = .ok (.iaload, 1) := by decide +kernel
theorem dL_isAsked_56 : decode cL_isAsked 56 = .ok (.iconst 1, 1) := by decide +kernel
theorem dL_isAsked_57 : decode cL_isAsked 57 = .ok (.iadd, 1) := by decide +kernel
theorem dL_isAsked_58 : decode cL_isAsked 58 = .ok (.iastore, 1) := by decide +kernel
theorem dL_isAsked_59 : decode cL_isAsked 59 = .ok (.iconst 0, 1) := by decide +kernel
theorem dL_isAsked_60 : decode cL_isAsked 60 = .ok (.istore 8, 2) := by decide +kernel
theorem dL_isAsked_62 : decode cL_isAsked 62 = .ok (.iconst 0, 1) := by decide +kernel
theorem dL_isAsked_63 : decode cL_isAsked 63 = .ok (.istore 9, 2) := by decide +kernel
theorem dL_isAsked_65 : decode cL_isAsked 65 = .ok (.aload_n 1, 1) := by decide +kernel
theorem dL_isAsked_66 : decode cL_isAsked 66 = .ok (.iload 6, 2) := by decide +kernel
theorem dL_isAsked_68 : decode cL_isAsked 68 = .ok (.iaload, 1) := by decide +kernel
theorem dL_isAsked_69 : decode cL_isAsked 69 = .ok (.istore 10, 2) := by decide +kernel
theorem dL_isAsked_71 : decode cL_isAsked 71 = .ok (.iload 10, 2) := by decide +kernel
theorem dL_isAsked_73 : decode cL_isAsked 73 = .ok (.aload_n 1, 1) := by decide +kernel
theorem dL_isAsked_74 : decode cL_isAsked 74 = .ok (.iload 6, 2) := by decide +kernel
theorem dL_isAsked_76 : decode cL_isAsked 76 = .ok (.iconst 1, 1) := by decide +kernel
theorem dL_isAsked_77 : decode cL_isAsked 77 = .ok (.iadd, 1) := by decide +kernel
theorem dL_isAsked_78 : decode cL_isAsked 78 = .ok (.iaload, 1) := by decide +kernel
theorem dL_isAsked_79 : decode cL_isAsked 79 = .ok (.if_icmp .gt 76, 3) := by decide +kernel
theorem dL_isAsked_82 : decode cL_isAsked 82 = .ok (.aload 4, 2) := by decide +kernel
theorem dL_isAsked_84 : decode cL_isAsked 84 = .ok (.iload 10, 2) := by decide +kernel
theorem dL_isAsked_86 : decode cL_isAsked 86 = .ok (.invokestatic 106, 3) := by decide +kernel
theorem dL_isAsked_89 : decode cL_isAsked 89 = .ok (.aload_n 3, 1) := by decide +kernel
theorem dL_isAsked_90 : decode cL_isAsked 90 = .ok (.aload 4, 2) := by decide +kernel
theorem dL_isAsked_92 : decode cL_isAsked 92 = .ok (.iload 10, 2) := by decide +kernel
theorem dL_isAsked_94 : decode cL_isAsked 94 = .ok (.invokestatic 103, 3) := by decide +kernel
theorem dL_isAsked_97 : decode cL_isAsked 97 = .ok (.isub, 1) := by decide +kernel
theorem dL_isAsked_98 : decode cL_isAsked 98 = .ok (.istore 11, 2) := by decide +kernel
theorem dL_isAsked_100 : decode cL_isAsked 100 = .ok (.iload 8, 2) := by decide +kernel
