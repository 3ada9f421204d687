theorem dL_does_90 : decode cL_does 90 = .ok (.bipush 6, 2) := by decide +kernel
theorem dL_does_92 : decode cL_does 92 = .ok (.if_icmp .ne 11, 3) := by decide +kernel
theorem dL_does_95 : decode cL_does 95 = .ok (.aload_n 0, 1) := by decide +kernel
theorem dL_does_96 : decode cL_does 96 = .ok (.iload_n 2, 1) := by decide +kernel
theorem dL_does_97 : decode cL_does 97 = .ok (.invokevirtual 39, 3) := by decide +kernel
theorem dL_does_100 : decode cL_does 100 = .ok (.goto 8, 3) := by decide +kernel
theorem dL_does_103 : decode cL_does 103 = .ok (.aload_n 0, 1) := by decide +kernel
theorem dL_does_104 : decode cL_does 104 = .ok (.iload_n 2, 1) := by decide +kernel
theorem dL_does_105 : decode cL_does 105 = .ok (.invokevirtual 42, 3) := by decide +kernel
theorem dL_does_108 : decode cL_does 108 = .ok (.ireturn, 1) := by decide +kernel
theorem dL_does_109 : decode cL_does 109 = .ok (.astore 6, 2) := by decide +kernel
theorem dL_does_111 : decode cL_does 111 = .ok (.bipush (-30), 2) := by decide +kernel
theorem dL_does_113 : decode cL_does 113 = .ok (.ireturn, 1) := by decide +kernel
theorem dL_does_114 : decode cL_does 114 = .ok (.astore 6, 2) := by decide +kernel
theorem dL_does_116 : decode cL_does 116 = .ok (.bipush (-20), 2) := by decide +kernel
theorem dL_does_118 : decode cL_does 118 = .ok (.ireturn, 1) := by decide +kernel
theorem dL_does_119 : decode cL_does 119 = .ok (.astore 6, 2) := by decide +kernel
theorem dL_does_121 : decode cL_does 121 = .ok (.bipush (-10), 2) := by decide +kernel
theorem dL_does_123 : decode cL_does 123 = .ok (.ireturn, 1) := by decide +kernel
set_option maxRecDepth 20000 in
theorem ggL_asks_X5_booked : GoodIn wsL_asks wsX5_booked := goodIn_ca (goodIn_r _ [7, 8, 9, 10, 11, 6, 12, 13, 14, 15, 16, 17, 18, 19, 20, 21, 22, 23, 24, 25, 26, 27, 28, 29, 30, 31, 32, 33, 175, 176, 177, 178, 179, 180, 181, 182, 183, 184, 185, 186, 187, 188, 189, 190, 191, 192, 193] (by decide +kernel) (by decide +kernel)) (goodIn_sub (fun _ h => List.mem_cons_of_mem _ (List.mem_append_left _ (List.mem_append_right _ h))) (by decide +kernel))
set_option maxRecDepth 20000 in
theorem gL_asks_X5_booked : GoodIn wsL_asks (wsV RL 51 RX5 yX5_booked wsX5_booked) := goodIn_app (goodIn_of _ (by decide +kernel)) ggL_asks_X5_booked
set_option maxRecDepth 20000 in
theorem ggL_asks_X5_authorised : GoodIn wsL_asks wsX5_authorised := goodIn_ca (goodIn_r _ [37, 8, 9, 10, 11, 6, 12, 13, 14, 15, 38, 39, 40, 41, 42, 43, 44, 45, 46, 47, 175, 176, 177, 178, 179, 180, 181, 182, 183, 184, 185, 186, 187, 188] (by decide +kernel) (by decide +kernel)) (goodIn_sub (fun _ h => List.mem_cons_of_mem _ (List.mem_append_left _ (List.mem_append_right _ h))) (by decide +kernel))
set_option maxRecDepth 20000 in
theorem gL_asks_X5_authorised : GoodIn wsL_asks (wsV RL 54 RX5 yX5_authorised wsX5_authorised) := goodIn_app (goodIn_of _ (by decide +kernel)) ggL_asks_X5_authorised
set_option maxRecDepth 20000 in
theorem ggL_asks_X5_protectedSeats : GoodIn wsL_asks wsX5_protectedSeats := goodIn_ca (goodIn_ca (goodIn_r _ [51, 8, 9, 52, 53, 10, 11, 6, 12, 13, 14, 15, 54, 55, 56, 57, 58, 59, 60, 61, 62, 63, 64, 65, 66, 67, 68, 69, 70, 175, 176, 177, 178, 179, 180, 181, 182, 183, 184, 185, 186, 187, 188, 194, 195, 196, 197, 198, 199, 200] (by decide +kernel) (by decide +kernel)) (goodIn_sub (fun _ h => List.mem_cons_of_mem _ (List.mem_append_left _ (List.mem_append_right _ h))) (by decide +kernel))) (goodIn_sub (fun _ h => List.mem_cons_of_mem _ (List.mem_append_right _ h)) (by decide +kernel))
set_option maxRecDepth 20000 in
theorem gL_asks_X5_protectedSeats : GoodIn wsL_asks (wsV RL 57 RX5 yX5_protectedSeats wsX5_protectedSeats) := goodIn_app (goodIn_of _ (by decide +kernel)) ggL_asks_X5_protectedSeats
set_option maxRecDepth 20000 in
theorem ggL_asks_X5_bid : GoodIn wsL_asks wsX5_bid := goodIn_ca (goodIn_r _ [74, 8, 9, 10, 11, 6, 12, 13, 14, 15, 75, 76, 77, 78, 79, 80, 81, 82, 83, 84, 85, 86, 87, 88, 89, 90, 91, 92, 93, 94, 95, 96, 97, 98, 99, 100, 101, 102, 61, 103, 104, 105, 106, 107, 108, 109, 110, 111, 112, 113, 114, 115, 116, 117, 118, 119, 120, 121, 43, 44, 45, 46, 47, 16, 17, 18, 19, 20, 21, 22, 23, 24, 25, 26, 27, 28, 29, 30, 31, 32, 33, 122, 123, 124, 125, 126, 127, 128, 129, 130, 131, 132, 133, 134, 135, 136, 137, 138, 139, 175, 176, 177, 178, 179, 180, 181, 182, 183, 184, 185, 186, 187, 188, 201, 202, 203, 204, 205, 206, 207, 208, 194, 195, 196, 197, 198, 199, 200, 189, 190, 191, 192, 193] (by decide +kernel) (by decide +kernel)) (goodIn_sub (fun _ h => List.mem_cons_of_mem _ (List.mem_append_left _ (List.mem_append_right _ h))) (by decide +kernel))
set_option maxRecDepth 20000 in
theorem gL_asks_X5_bid : GoodIn wsL_asks (wsV RL 60 RX5 yX5_bid wsX5_bid) := goodIn_app (goodIn_of _ (by decide +kernel)) ggL_asks_X5_bid
set_option maxRecDepth 20000 in
theorem ggL_asks_X5_displaced : GoodIn wsL_asks wsX5_displaced := goodIn_ca (goodIn_ca (goodIn_r _ [143, 8, 9, 52, 53, 10, 11, 6, 12, 13, 14, 15, 144, 145, 146, 147, 117, 118, 119, 120, 121, 108, 109, 110, 43, 44, 45, 46, 47, 16, 17, 18, 19, 20, 21, 22, 23, 24, 25, 26, 27, 28, 29, 30, 31, 32, 33, 148, 149, 150, 151, 79, 80, 81, 82, 83, 84, 85, 86, 87, 88, 89, 90, 91, 92, 93, 94, 95, 96, 97, 98, 99, 100, 101, 102, 61, 103, 104, 105, 106, 107, 111, 112, 113, 114, 115, 116, 122, 123, 124, 125, 126, 127, 128, 129, 130, 131, 132, 133, 134, 135, 136, 137, 138, 139, 175, 176, 177, 178, 179, 180, 181, 182, 183, 184, 185, 186, 187, 188, 189, 190, 191, 192, 193, 201, 202, 203, 204, 205, 206, 207, 208, 194, 195, 196, 197, 198, 199, 200] (by decide +kernel) (by decide +kernel)) (goodIn_sub (fun _ h => List.mem_cons_of_mem _ (List.mem_append_left _ (List.mem_append_right _ h))) (by decide +kernel))) (goodIn_sub (fun _ h => List.mem_cons_of_mem _ (List.mem_append_right _ h)) (by decide +kernel))
set_option maxRecDepth 20000 in
theorem gL_asks_X5_displaced : GoodIn wsL_asks (wsV RL 63 RX5 yX5_displaced wsX5_displaced) := goodIn_app (goodIn_of _ (by decide +kernel)) ggL_asks_X5_displaced
set_option maxRecDepth 20000 in
theorem ggL_asks_X5_expected : GoodIn wsL_asks wsX5_expected := goodIn_ca (goodIn_r _ [155, 8, 9, 156, 157, 158, 6, 159, 58, 194, 195, 196, 197, 198, 199, 200, 175, 176, 177, 178, 179, 180, 181, 182, 183, 184, 185, 186, 187, 188] (by decide +kernel) (by decide +kernel)) (goodIn_sub (fun _ h => List.mem_cons_of_mem _ (List.mem_append_left _ (List.mem_append_right _ h))) (by decide +kernel))
set_option maxRecDepth 20000 in
theorem gL_asks_X5_expected : GoodIn wsL_asks (wsV RL 66 RX5 yX5_expected wsX5_expected) := goodIn_app (goodIn_of _ (by decide +kernel)) ggL_asks_X5_expected
set_option maxRecDepth 20000 in
theorem ggL_asks_X5_asked : GoodIn wsL_asks wsX5_asked := goodIn_ca (goodIn_r _ [163, 8, 9, 156, 157, 158, 6, 159, 58, 194, 195, 196, 197, 198, 199, 200, 175, 176, 177, 178, 179, 180, 181, 182, 183, 184, 185, 186, 187, 188] (by decide +kernel) (by decide +kernel)) (goodIn_sub (fun _ h => List.mem_cons_of_mem _ (List.mem_append_left _ (List.mem_append_right _ h))) (by decide +kernel))
set_option maxRecDepth 20000 in
theorem gL_asks_X5_asked : GoodIn wsL_asks (wsV RL 69 RX5 yX5_asked wsX5_asked) := goodIn_app (goodIn_of _ (by decide +kernel)) ggL_asks_X5_asked
set_option maxRecDepth 20000 in
theorem ggL_asks_X5_refused : GoodIn wsL_asks wsX5_refused := goodIn_ca (goodIn_r _ [167, 52, 53, 168, 169, 170, 175, 176, 177, 178, 179, 180, 181, 182, 183, 184, 185, 186, 187, 188] (by decide +kernel) (by decide +kernel)) (goodIn_sub (fun _ h => List.mem_cons_of_mem _ (List.mem_append_right _ h)) (by decide +kernel))
set_option maxRecDepth 20000 in
theorem gL_asks_X5_refused : GoodIn wsL_asks (wsV RL 72 RX5 yX5_refused wsX5_refused) := goodIn_app (goodIn_of _ (by decide +kernel)) ggL_asks_X5_refused
set_option maxRecDepth 20000 in
theorem ggL_asks_X5_average : GoodIn wsL_asks wsX5_average := goodIn_ca (goodIn_r _ [174, 8, 9, 59, 156, 157, 158, 6, 159, 58, 175, 176, 177, 178, 179, 180, 181, 182, 183, 184, 185, 186, 187, 188, 194, 195, 196, 197, 198, 199, 200] (by decide +kernel) (by decide +kernel)) (goodIn_sub (fun _ h => List.mem_cons_of_mem _ (List.mem_append_left _ (List.mem_append_right _ h))) (by decide +kernel))
set_option maxRecDepth 20000 in
theorem gL_asks_X5_average : GoodIn wsL_asks (wsV RL 75 RX5 yX5_average wsX5_average) := goodIn_app (goodIn_of _ (by decide +kernel)) ggL_asks_X5_average
theorem dL_asks_0 : decode cL_asks 0 = .ok (.iload_n 1, 1) := by decide +kernel
theorem dL_asks_1 : decode cL_asks 1 = .ok (.ifCond .ne 11, 3) := by decide +kernel
theorem dL_asks_4 : decode cL_asks 4 = .ok (.aload_n 0, 1) := by decide +kernel
theorem dL_asks_5 : decode cL_asks 5 = .ok (.iload_n 2, 1) := by decide +kernel
theorem dL_asks_6 : decode cL_asks 6 = .ok (.invokevirtual 51, 3) := by decide +kernel
theorem dL_asks_9 : decode cL_asks 9 = .ok (.goto 115, 3) := by decide +kernel
theorem dL_asks_12 : decode cL_asks 12 = .ok (.iload_n 1, 1) := by decide +kernel
theorem dL_asks_13 : decode cL_asks 13 = .ok (.iconst 1, 1) := by decide +kernel
theorem dL_asks_14 : decode cL_asks 14 = .ok (.if_icmp .ne 11, 3) := by decide +kernel
theorem dL_asks_17 : decode cL_asks 17 = .ok (.aload_n 0, 1) := by decide +kernel
theorem dL_asks_18 : decode cL_asks 18 = .ok (.iload_n 2, 1) := by decide +kernel
theorem dL_asks_19 : decode cL_asks 19 = .ok (.invokevirtual 54, 3) := by decide +kernel
theorem dL_asks_22 : decode cL_asks 22 = .ok (.goto 102, 3) := by decide +kernel
theorem dL_asks_25 : decode cL_asks 25 = .ok (.iload_n 1, 1) := by decide +kernel
theorem dL_asks_26 : decode cL_asks 26 = .ok (.iconst 2, 1) := by decide +kernel
theorem dL_asks_27 : decode cL_asks 27 = .ok (.if_icmp .ne 12, 3) := by decide +kernel
theorem dL_asks_30 : decode cL_asks 30 = .ok (.aload_n 0, 1) := by decide +kernel
theorem dL_asks_31 : decode cL_asks 31 = .ok (.iload_n 2, 1) := by decide +kernel
theorem dL_asks_32 : decode cL_asks 32 = .ok (.iload_n 3, 1) := by decide +kernel
theorem dL_asks_33 : decode cL_asks 33 = .ok (.invokevirtual 57, 3) := by decide +kernel
theorem dL_asks_36 : decode cL_asks 36 = .ok (.goto 88, 3) := by decide +kernel
theorem dL_asks_39 : decode cL_asks 39 = .ok (.iload_n 1, 1) := by decide +kernel
theorem dL_asks_40 : decode cL_asks 40 = .ok (.iconst 3, 1) := by decide +kernel
theorem dL_asks_41 : decode cL_asks 41 = .ok (.if_icmp .ne 11, 3) := by decide +kernel
theorem dL_asks_44 : decode cL_asks 44 = .ok (.aload_n 0, 1) := by decide +kernel
theorem dL_asks_45 : decode cL_asks 45 = .ok (.iload_n 2, 1) := by decide +kernel
theorem dL_asks_46 : decode cL_asks 46 = .ok (.invokevirtual 60, 3) := by decide +kernel
theorem dL_asks_49 : decode cL_asks 49 = .ok (.goto 75, 3) := by decide +kernel
theorem dL_asks_52 : decode cL_asks 52 = .ok (.iload_n 1, 1) := by decide +kernel
theorem dL_asks_53 : decode cL_asks 53 = .ok (.iconst 4, 1) := by decide +kernel
theorem dL_asks_54 : decode cL_asks 54 = .ok (.if_icmp .ne 14, 3) := by decide +kernel
theorem dL_asks_57 : decode cL_asks 57 = .ok (.aload_n 0, 1) := by decide +kernel
theorem dL_asks_58 : decode cL_asks 58 = .ok (.iload_n 2, 1) := by decide +kernel
theorem dL_asks_59 : decode cL_asks 59 = .ok (.iload_n 3, 1) := by decide +kernel
theorem dL_asks_60 : decode cL_asks 60 = .ok (.iload 4, 2) := by decide +kernel
theorem dL_asks_62 : decode cL_asks 62 = .ok (.invokevirtual 63, 3) := by decide +kernel
theorem dL_asks_65 : decode cL_asks 65 = .ok (.goto 59, 3) := by decide +kernel
theorem dL_asks_68 : decode cL_asks 68 = .ok (.iload_n 1, 1) := by decide +kernel
theorem dL_asks_69 : decode cL_asks 69 = .ok (.iconst 5, 1) := by decide +kernel
theorem dL_asks_70 : decode cL_asks 70 = .ok (.if_icmp .ne 11, 3) := by decide +kernel
theorem dL_asks_73 : decode cL_asks 73 = .ok (.aload_n 0, 1) := by decide +kernel
theorem dL_asks_74 : decode cL_asks 74 = .ok (.iload_n 2, 1) := by decide +kernel
theorem dL_asks_75 : decode cL_asks 75 = .ok (.invokevirtual 66, 3) := by decide +kernel
theorem dL_asks_78 : decode cL_asks 78 = .ok (.goto 46, 3) := by decide +kernel
theorem dL_asks_81 : decode cL_asks 81 = .ok (.iload_n 1, 1) := by decide +kernel
theorem dL_asks_82 : decode cL_asks 82 = .ok (.bipush 6, 2) := by decide +kernel
theorem dL_asks_84 : decode cL_asks 84 = .ok (.if_icmp .ne 11, 3) := by decide +kernel
theorem dL_asks_87 : decode cL_asks 87 = .ok (.aload_n 0, 1) := by decide +kernel
theorem dL_asks_88 : decode cL_asks 88 = .ok (.iload_n 2, 1) := by decide +kernel
theorem dL_asks_89 : decode cL_asks 89 = .ok (.invokevirtual 69, 3) := by decide +kernel
theorem dL_asks_92 : decode cL_asks 92 = .ok (.goto 32, 3) := by decide +kernel
theorem dL_asks_95 : decode cL_asks 95 = .ok (.iload_n 1, 1) := by decide +kernel
theorem dL_asks_96 : decode cL_asks 96 = .ok (.bipush 7, 2) := by decide +kernel
theorem dL_asks_98 : decode cL_asks 98 = .ok (.if_icmp .ne 11, 3) := by decide +kernel
theorem dL_asks_101 : decode cL_asks 101 = .ok (.aload_n 0, 1) := by decide +kernel
theorem dL_asks_102 : decode cL_asks 102 = .ok (.iload_n 2, 1) := by decide +kernel
theorem dL_asks_103 : decode cL_asks 103 = .ok (.invokevirtual 72, 3) := by decide +kernel
theorem dL_asks_106 : decode cL_asks 106 = .ok (.goto 18, 3) := by decide +kernel
theorem dL_asks_109 : decode cL_asks 109 = .ok (.aload_n 0, 1) := by decide +kernel
theorem dL_asks_110 : decode cL_asks 110 = .ok (.iload_n 2, 1) := by decide +kernel
theorem dL_asks_111 : decode cL_asks 111 = .ok (.invokevirtual 75, 3) := by decide +kernel
theorem dL_asks_114 : decode cL_asks 114 = .ok (.fconst 0, 1) := by decide +kernel
theorem dL_asks_115 : decode cL_asks 115 = .ok (.fcmp .l, 1) := by decide +kernel
theorem dL_asks_116 : decode cL_asks 116 = .ok (.ifCond .lt 7, 3) := by decide +kernel
theorem dL_asks_119 : decode cL_asks 119 = .ok (.iconst 1, 1) := by decide +kernel
theorem dL_asks_120 : decode cL_asks 120 = .ok (.goto 4, 3) := by decide +kernel
theorem dL_asks_123 : decode cL_asks 123 = .ok (.iconst 0, 1) := by decide +kernel
theorem dL_asks_124 : decode cL_asks 124 = .ok (.ireturn, 1) := by decide +kernel
theorem dL_asks_125 : decode cL_asks 125 = .ok (.astore 5, 2) := by decide +kernel
theorem dL_asks_127 : decode cL_asks 127 = .ok (.bipush (-30), 2) := by decide +kernel
theorem dL_asks_129 : decode cL_asks 129 = .ok (.ireturn, 1) := by decide +kernel
theorem dL_asks_130 : decode cL_asks 130 = .ok (.astore 5, 2) := by decide +kernel
theorem dL_asks_132 : decode cL_asks 132 = .ok (.bipush (-20), 2) := by decide +kernel
theorem dL_asks_134 : decode cL_asks 134 = .ok (.ireturn, 1) := by decide +kernel
theorem dL_booked_0 : decode cL_booked 0 = .ok (.iconst 0, 1) := by decide +kernel
theorem dL_booked_1 : decode cL_booked 1 = .ok (.istore_n 3, 1) := by decide +kernel
theorem dL_booked_2 : decode cL_booked 2 = .ok (.iconst 0, 1) := by decide +kernel
theorem dL_booked_3 : decode cL_booked 3 = .ok (.istore 4, 2) := by decide +kernel
theorem dL_booked_5 : decode cL_booked 5 = .ok (.iload 4, 2) := by decide +kernel
theorem dL_booked_7 : decode cL_booked 7 = .ok (.aload_n 1, 1) := by decide +kernel
theorem dL_booked_8 : decode cL_booked 8 = .ok (.bipush 6, 2) := by decide +kernel
theorem dL_booked_10 : decode cL_booked 10 = .ok (.iaload, 1) := by decide +kernel
theorem dL_booked_11 : decode cL_booked 11 = .ok (.if_icmp .ge 59, 3) := by decide +kernel
theorem dL_booked_14 : decode cL_booked 14 = .ok (.iload_n 3, 1) := by decide +kernel
theorem dL_booked_15 : decode cL_booked 15 = .ok (.aload_n 0, 1) := by decide +kernel
theorem dL_booked_16 : decode cL_booked 16 = .ok (.bipush 20, 2) := by decide +kernel
theorem dL_booked_18 : decode cL_booked 18 = .ok (.iload 4, 2) := by decide +kernel
theorem dL_booked_20 : decode cL_booked 20 = .ok (.iadd, 1) := by decide +kernel
theorem dL_booked_21 : decode cL_booked 21 = .ok (.iaload, 1) := by decide +kernel
theorem dL_booked_22 : decode cL_booked 22 = .ok (.ifCond .le 39, 3) := by decide +kernel
theorem dL_booked_25 : decode cL_booked 25 = .ok (.aload_n 0, 1) := by decide +kernel
theorem dL_booked_26 : decode cL_booked 26 = .ok (.iload 4, 2) := by decide +kernel
theorem dL_booked_28 : decode cL_booked 28 = .ok (.iaload, 1) := by decide +kernel
theorem dL_booked_29 : decode cL_booked 29 = .ok (.sipush 1000, 3) := by decide +kernel
theorem dL_booked_32 : decode cL_booked 32 = .ok (.idiv, 1) := by decide +kernel
theorem dL_booked_33 : decode cL_booked 33 = .ok (.iload_n 2, 1) := by decide +kernel
theorem dL_booked_34 : decode cL_booked 34 = .ok (.if_icmp .gt 27, 3) := by decide +kernel
theorem dL_booked_37 : decode cL_booked 37 = .ok (.aload_n 0, 1) := by decide +kernel
theorem dL_booked_38 : decode cL_booked 38 = .ok (.iload 4, 2) := by decide +kernel
theorem dL_booked_40 : decode cL_booked 40 = .ok (.iaload, 1) := by decide +kernel
theorem dL_booked_41 : decode cL_booked 41 = .ok (.bipush 100, 2) := by decide +kernel
theorem dL_booked_43 : decode cL_booked 43 = .ok (.idiv, 1) := by decide +kernel
theorem dL_booked_44 : decode cL_booked 44 = .ok (.bipush 10, 2) := by decide +kernel
theorem dL_booked_46 : decode cL_booked 46 = .ok (.irem, 1) := by decide +kernel
theorem dL_booked_47 : decode cL_booked 47 = .ok (.iload_n 2, 1) := by decide +kernel
theorem dL_booked_48 : decode cL_booked 48 = .ok (.if_icmp .lt 13, 3) := by decide +kernel
theorem dL_booked_51 : decode cL_booked 51 = .ok (.aload_n 0, 1) := by decide +kernel
theorem dL_booked_52 : decode cL_booked 52 = .ok (.iload 4, 2) := by decide +kernel
theorem dL_booked_54 : decode cL_booked 54 = .ok (.iaload, 1) := by decide +kernel
theorem dL_booked_55 : decode cL_booked 55 = .ok (.bipush 100, 2) := by decide +kernel
theorem dL_booked_57 : decode cL_booked 57 = .ok (.irem, 1) := by decide +kernel
theorem dL_booked_58 : decode cL_booked 58 = .ok (.goto 4, 3) := by decide +kernel
theorem dL_booked_61 : decode cL_booked 61 = .ok (.iconst 0, 1) := by decide +kernel
theorem dL_booked_62 : decode cL_booked 62 = .ok (.iadd, 1) := by decide +kernel
theorem dL_booked_63 : decode cL_booked 63 = .ok (.istore_n 3, 1) := by decide +kernel
theorem dL_booked_64 : decode cL_booked 64 = .ok (.iinc 4 1, 3) := by decide +kernel
theorem dL_booked_67 : decode cL_booked 67 = .ok (.goto (-62), 3) := by decide +kernel
theorem dL_booked_70 : decode cL_booked 70 = .ok (.iload_n 3, 1) := by decide +kernel
theorem dL_booked_71 : decode cL_booked 71 = .ok (.ireturn, 1) := by decide +kernel
theorem dL_authorised_0 : decode cL_authorised 0 = .ok (.aload_n 0, 1) := by decide +kernel
theorem dL_authorised_1 : decode cL_authorised 1 = .ok (.iload_n 1, 1) := by decide +kernel
theorem dL_authorised_2 : decode cL_authorised 2 = .ok (.iaload, 1) := by decide +kernel
theorem dL_authorised_3 : decode cL_authorised 3 = .ok (.aload_n 0, 1) := by decide +kernel
theorem dL_authorised_4 : decode cL_authorised 4 = .ok (.iload_n 1, 1) := by decide +kernel
theorem dL_authorised_5 : decode cL_authorised 5 = .ok (.iaload, 1) := by decide +kernel
theorem dL_authorised_6 : decode cL_authorised 6 = .ok (.bipush 100, 2) := by decide +kernel
theorem dL_authorised_8 : decode cL_authorised 8 = .ok (.aload_n 0, 1) := by decide +kernel
theorem dL_authorised_9 : decode cL_authorised 9 = .ok (.iconst 3, 1) := by decide +kernel
theorem dL_authorised_10 : decode cL_authorised 10 = .ok (.iaload, 1) := by decide +kernel
theorem dL_authorised_11 : decode cL_authorised 11 = .ok (.isub, 1) := by decide +kernel
theorem dL_authorised_12 : decode cL_authorised 12 = .ok (.imul, 1) := by decide +kernel
theorem dL_authorised_13 : decode cL_authorised 13 = .ok (.bipush 100, 2) := by decide +kernel
theorem dL_authorised_15 : decode cL_authorised 15 = .ok (.idiv, 1) := by decide +kernel
theorem dL_authorised_16 : decode cL_authorised 16 = .ok (.iadd, 1) := by decide +kernel
theorem dL_authorised_17 : decode cL_authorised 17 = .ok (.ireturn, 1) := by decide +kernel
theorem dL_guarded_0 : decode cL_guarded 0 = .ok (.iconst 0, 1) := by decide +kernel
theorem dL_guarded_1 : decode cL_guarded 1 = .ok (.istore 5, 2) := by decide +kernel
theorem dL_guarded_3 : decode cL_guarded 3 = .ok (.iconst 0, 1) := by decide +kernel
theorem dL_guarded_4 : decode cL_guarded 4 = .ok (.istore 6, 2) := by decide +kernel
theorem dL_guarded_6 : decode cL_guarded 6 = .ok (.iload 6, 2) := by decide +kernel
theorem dL_guarded_8 : decode cL_guarded 8 = .ok (.aload_n 2, 1) := by decide +kernel
theorem dL_guarded_9 : decode cL_guarded 9 = .ok (.iconst 4, 1) := by decide +kernel
theorem dL_guarded_10 : decode cL_guarded 10 = .ok (.iaload, 1) := by decide +kernel
theorem dL_guarded_11 : decode cL_guarded 11 = .ok (.if_icmp .ge 153, 3) := by decide +kernel
theorem dL_guarded_14 : decode cL_guarded 14 = .ok (.aload_n 2, 1) := by decide +kernel
theorem dL_guarded_15 : decode cL_guarded 15 = .ok (.iconst 5, 1) := by decide +kernel
theorem dL_guarded_16 : decode cL_guarded 16 = .ok (.iaload, 1) := by decide +kernel
theorem dL_guarded_17 : decode cL_guarded 17 = .ok (.ifCond .le 147, 3) := by decide +kernel
theorem dL_guarded_20 : decode cL_guarded 20 = .ok (.bipush 6, 2) := by decide +kernel
theorem dL_guarded_22 : decode cL_guarded 22 = .ok (.iload 6, 2) := by decide +kernel
theorem dL_guarded_24 : decode cL_guarded 24 = .ok (.imul, 1) := by decide +kernel
theorem dL_guarded_25 : decode cL_guarded 25 = .ok (.istore 7, 2) := by decide +kernel
theorem dL_guarded_27 : decode cL_guarded 27 = .ok (.iconst 0, 1) := by decide +kernel
theorem dL_guarded_28 : decode cL_guarded 28 = .ok (.istore 8, 2) := by decide +kernel
theorem dL_guarded_30 : decode cL_guarded 30 = .ok (.iconst 1, 1) := by decide +kernel
theorem dL_guarded_31 : decode cL_guarded 31 = .ok (.istore 9, 2) := by decide +kernel
theorem dL_guarded_33 : decode cL_guarded 33 = .ok (.iload 9, 2) := by decide +kernel
theorem dL_guarded_35 : decode cL_guarded 35 = .ok (.bipush 20, 2) := by decide +kernel
theorem dL_guarded_37 : decode cL_guarded 37 = .ok (.if_icmp .gt 81, 3) := by decide +kernel
theorem dL_guarded_40 : decode cL_guarded 40 = .ok (.iconst 0, 1) := by decide +kernel
theorem dL_guarded_41 : decode cL_guarded 41 = .ok (.istore 10, 2) := by decide +kernel
theorem dL_guarded_43 : decode cL_guarded 43 = .ok (.iconst 0, 1) := by decide +kernel
theorem dL_guarded_44 : decode cL_guarded 44 = .ok (.istore 11, 2) := by decide +kernel
theorem dL_guarded_46 : decode cL_guarded 46 = .ok (.iload 11, 2) := by decide +kernel
theorem dL_guarded_48 : decode cL_guarded 48 = .ok (.aload_n 2, 1) := by decide +kernel
theorem dL_guarded_49 : decode cL_guarded 49 = .ok (.iconst 5, 1) := by decide +kernel
theorem dL_guarded_50 : decode cL_guarded 50 = .ok (.iaload, 1) := by decide +kernel
theorem dL_guarded_51 : decode cL_guarded 51 = .ok (.if_icmp .ge 34, 3) := by decide +kernel
theorem dL_guarded_54 : decode cL_guarded 54 = .ok (.iload 10, 2) := by decide +kernel
theorem dL_guarded_56 : decode cL_guarded 56 = .ok (.aload_n 1, 1) := by decide +kernel
theorem dL_guarded_57 : decode cL_guarded 57 = .ok (.bipush 10, 2) := by decide +kernel
theorem dL_guarded_59 : decode cL_guarded 59 = .ok (.iload 6, 2) := by decide +kernel
theorem dL_guarded_61 : decode cL_guarded 61 = .ok (.imul, 1) := by decide +kernel
theorem dL_guarded_62 : decode cL_guarded 62 = .ok (.iload 11, 2) := by decide +kernel
theorem dL_guarded_64 : decode cL_guarded 64 = .ok (.iadd, 1) := by decide +kernel
theorem dL_guarded_65 : decode cL_guarded 65 = .ok (.iaload, 1) := by decide +kernel
theorem dL_guarded_66 : decode cL_guarded 66 = .ok (.iload 9, 2) := by decide +kernel
theorem dL_guarded_68 : decode cL_guarded 68 = .ok (.if_icmp .lt 7, 3) := by decide +kernel
theorem dL_guarded_71 : decode cL_guarded 71 = .ok (.iconst 1, 1) := by decide +kernel
theorem dL_guarded_72 : decode cL_guarded 72 = .ok (.goto 4, 3) := by decide +kernel
theorem dL_guarded_75 : decode cL_guarded 75 = .ok (.iconst 0, 1) := by decide +kernel
theorem dL_guarded_76 : decode cL_guarded 76 = .ok (.iadd, 1) := by decide +kernel
theorem dL_guarded_77 : decode cL_guarded 77 = .ok (.istore 10, 2) := by decide +kernel
theorem dL_guarded_79 : decode cL_guarded 79 = .ok (.iinc 11 1, 3) := by decide +kernel
theorem dL_guarded_82 : decode cL_guarded 82 = .ok (.goto (-36), 3) := by decide +kernel
theorem dL_guarded_85 : decode cL_guarded 85 = .ok (.aload_n 0, 1) := by decide +kernel
theorem dL_guarded_86 : decode cL_guarded 86 = .ok (.iload 7, 2) := by decide +kernel
theorem dL_guarded_88 : decode cL_guarded 88 = .ok (.iconst 2, 1) := by decide +kernel
theorem dL_guarded_89 : decode cL_guarded 89 = .ok (.iadd, 1) := by decide +kernel
theorem dL_guarded_90 : decode cL_guarded 90 = .ok (.iaload, 1) := by decide +kernel
theorem dL_guarded_91 : decode cL_guarded 91 = .ok (.iload 10, 2) := by decide +kernel
theorem dL_guarded_93 : decode cL_guarded 93 = .ok (.imul, 1) := by decide +kernel
theorem dL_guarded_94 : decode cL_guarded 94 = .ok (.iload 4, 2) := by decide +kernel
theorem dL_guarded_96 : decode cL_guarded 96 = .ok (.aload_n 2, 1) := by decide +kernel
theorem dL_guarded_97 : decode cL_guarded 97 = .ok (.iconst 5, 1) := by decide +kernel
theorem dL_guarded_98 : decode cL_guarded 98 = .ok (.iaload, 1) := by decide +kernel
theorem dL_guarded_99 : decode cL_guarded 99 = .ok (.imul, 1) := by decide +kernel
theorem dL_guarded_100 : decode cL_guarded 100 = .ok (.if_icmp .lt 8, 3) := by decide +kernel
theorem dL_guarded_103 : decode cL_guarded 103 = .ok (.iload 9, 2) := by decide +kernel
theorem dL_guarded_105 : decode cL_guarded 105 = .ok (.goto 5, 3) := by decide +kernel
theorem dL_guarded_108 : decode cL_guarded 108 = .ok (.iload 8, 2) := by decide +kernel
theorem dL_guarded_110 : decode cL_guarded 110 = .ok (.istore 8, 2) := by decide +kernel
theorem dL_guarded_112 : decode cL_guarded 112 = .ok (.iinc 9 1, 3) := by decide +kernel
theorem dL_guarded_115 : decode cL_guarded 115 = .ok (.goto (-82), 3) := by decide +kernel
theorem dL_guarded_118 : decode cL_guarded 118 = .ok (.iload 5, 2) := by decide +kernel
theorem dL_guarded_120 : decode cL_guarded 120 = .ok (.aload_n 0, 1) := by decide +kernel
theorem dL_guarded_121 : decode cL_guarded 121 = .ok (.iload 7, 2) := by decide +kernel
theorem dL_guarded_123 : decode cL_guarded 123 = .ok (.iaload, 1) := by decide +kernel
theorem dL_guarded_124 : decode cL_guarded 124 = .ok (.iload_n 3, 1) := by decide +kernel
theorem dL_guarded_125 : decode cL_guarded 125 = .ok (.if_icmp .gt 29, 3) := by decide +kernel
theorem dL_guarded_128 : decode cL_guarded 128 = .ok (.aload_n 0, 1) := by decide +kernel
theorem dL_guarded_129 : decode cL_guarded 129 = .ok (.iload 7, 2) := by decide +kernel
theorem dL_guarded_131 : decode cL_guarded 131 = .ok (.iconst 1, 1) := by decide +kernel
theorem dL_guarded_132 : decode cL_guarded 132 = .ok (.iadd, 1) := by decide +kernel
theorem dL_guarded_133 : decode cL_guarded 133 = .ok (.iaload, 1) := by decide +kernel
theorem dL_guarded_134 : decode cL_guarded 134 = .ok (.iload_n 3, 1) := by decide +kernel
theorem dL_guarded_135 : decode cL_guarded 135 = .ok (.if_icmp .lt 19, 3) := by decide +kernel
theorem dL_guarded_138 : decode cL_guarded 138 = .ok (.aload_n 0, 1) := by decide +kernel
theorem dL_guarded_139 : decode cL_guarded 139 = .ok (.iload 7, 2) := by decide +kernel
theorem dL_guarded_141 : decode cL_guarded 141 = .ok (.iconst 2, 1) := by decide +kernel
theorem dL_guarded_142 : decode cL_guarded 142 = .ok (.iadd, 1) := by decide +kernel
theorem dL_guarded_143 : decode cL_guarded 143 = .ok (.iaload, 1) := by decide +kernel
theorem dL_guarded_144 : decode cL_guarded 144 = .ok (.iload 4, 2) := by decide +kernel
theorem dL_guarded_146 : decode cL_guarded 146 = .ok (.if_icmp .le 8, 3) := by decide +kernel
theorem dL_guarded_149 : decode cL_guarded 149 = .ok (.iload 8, 2) := by decide +kernel
theorem dL_guarded_151 : decode cL_guarded 151 = .ok (.goto 4, 3) := by decide +kernel
theorem dL_guarded_154 : decode cL_guarded 154 = .ok (.iconst 0, 1) := by decide +kernel
theorem dL_guarded_155 : decode cL_guarded 155 = .ok (.iadd, 1) := by decide +kernel
theorem dL_guarded_156 : decode cL_guarded 156 = .ok (.istore 5, 2) := by decide +kernel
theorem dL_guarded_158 : decode cL_guarded 158 = .ok (.iinc 6 1, 3) := by decide +kernel
theorem dL_guarded_161 : decode cL_guarded 161 = .ok (.goto (-155), 3) := by decide +kernel
theorem dL_guarded_164 : decode cL_guarded 164 = .ok (.iload 5, 2) := by decide +kernel
theorem dL_guarded_166 : decode cL_guarded 166 = .ok (.ireturn, 1) := by decide +kernel
set_option maxRecDepth 20000 in
theorem ggL_areLegs_L_asks_wsL_asks_r1 : GoodIn wsL_areLegs wsL_asks_r1 := goodIn_r _ [5, 6, 7, 8, 9, 10, 11, 12, 13, 14, 15, 16, 17, 18, 19, 20, 21, 22, 23, 24, 25, 26, 27, 28] (by decide +kernel) (by decide +kernel)
set_option maxRecDepth 20000 in
theorem ggL_areLegs_L_asks_wsL_asks_r2 : GoodIn wsL_areLegs wsL_asks_r2 := goodIn_r _ [29, 30, 31, 32, 33, 34, 35, 36, 37, 38, 39, 40, 41, 42, 43, 44, 45, 46, 47, 48, 49, 50, 51, 52] (by decide +kernel) (by decide +kernel)
set_option maxRecDepth 20000 in
theorem ggL_areLegs_L_asks_wsL_asks_r3 : GoodIn wsL_areLegs wsL_asks_r3 := goodIn_r _ [53, 54, 55, 56, 57, 58, 59, 60, 61, 62, 63, 64, 65, 66, 67, 68, 69, 70, 71, 72, 73, 74, 75, 76] (by decide +kernel) (by decide +kernel)
set_option maxRecDepth 20000 in
theorem ggL_areLegs_L_asks_wsL_asks_r4 : GoodIn wsL_areLegs wsL_asks_r4 := goodIn_r _ [77, 78, 79, 80, 81, 82, 83, 84, 85, 86, 87, 88, 89, 90, 91, 92, 93, 94, 95, 96, 97, 98, 99, 100] (by decide +kernel) (by decide +kernel)
set_option maxRecDepth 20000 in
theorem ggL_areLegs_L_asks_wsL_asks_r5 : GoodIn wsL_areLegs wsL_asks_r5 := goodIn_r _ [101, 102, 103, 104, 105, 106, 107, 108, 109, 110, 111, 112, 113, 114, 115, 116, 117, 118, 119, 120, 121, 122, 123, 124] (by decide +kernel) (by decide +kernel)
set_option maxRecDepth 20000 in
theorem ggL_areLegs_L_asks_wsL_asks_r6 : GoodIn wsL_areLegs wsL_asks_r6 := goodIn_r _ [125, 126, 127, 128, 129, 130, 131, 132, 133, 134, 135, 136, 137, 138, 139, 140, 141, 142, 143, 144, 145, 146, 147, 148] (by decide +kernel) (by decide +kernel)
set_option maxRecDepth 20000 in
theorem ggL_areLegs_L_asks_wsL_asks_r7 : GoodIn wsL_areLegs wsL_asks_r7 := goodIn_r _ [149, 150, 151, 152, 153, 154, 155, 156, 157, 158, 159, 160, 161, 162, 163, 164, 165, 166, 167, 168, 169, 170, 171, 172] (by decide +kernel) (by decide +kernel)
set_option maxRecDepth 20000 in
theorem ggL_areLegs_L_asks_wsL_asks_r8 : GoodIn wsL_areLegs wsL_asks_r8 := goodIn_r _ [173, 174, 175, 176, 177, 178] (by decide +kernel) (by decide +kernel)
set_option maxRecDepth 20000 in
theorem ggL_areLegs_L_asks_wsX50 : GoodIn wsL_areLegs wsX50 := goodIn_r _ [246, 247, 248, 249, 250, 251, 252, 253, 254, 255, 256, 257, 258, 259] (by decide +kernel) (by decide +kernel)
set_option maxRecDepth 20000 in
theorem ggL_areLegs_L_asks_wsX00 : GoodIn wsL_areLegs wsX00 := goodIn_r _ [260, 261, 262, 263, 264] (by decide +kernel) (by decide +kernel)
set_option maxRecDepth 20000 in
theorem ggL_areLegs_L_asks_wsX20 : GoodIn wsL_areLegs wsX20 := goodIn_r _ [265, 266, 267, 268, 269, 270, 271] (by decide +kernel) (by decide +kernel)
set_option maxRecDepth 20000 in
theorem ggL_areLegs_L_asks_wsX10 : GoodIn wsL_areLegs wsX10 := goodIn_r _ [272, 273, 274, 275, 276, 277] (by decide +kernel) (by decide +kernel)
set_option maxRecDepth 20000 in
theorem ggL_areLegs_L_asks_wsX30 : GoodIn wsL_areLegs wsX30 := goodIn_r _ [278, 279] (by decide +kernel) (by decide +kernel)
set_option maxRecDepth 100000 in
theorem ggL_areLegs_L_asks_code : GoodIn wsL_areLegs [Cond.codeWith yL_asks cL_asks 6 (some .int) [(0, 124, 125, 45), (0, 124, 130, 47)]] := goodIn_sub (fun w hw => by rw [List.mem_singleton.mp hw]; exact List.mem_of_getElem? (i := 4) (by rfl)) (by rfl)
set_option maxRecDepth 20000 in
theorem ggL_areLegs_L_asks : GoodIn wsL_areLegs wsL_asks := goodIn_ca (goodIn_ca (goodIn_app ggL_areLegs_L_asks_code (goodIn_app (goodIn_app (goodIn_app (goodIn_app (goodIn_app (goodIn_app ggL_areLegs_L_asks_wsL_asks_r1 (goodIn_app ggL_areLegs_L_asks_wsL_asks_r2 (goodIn_app ggL_areLegs_L_asks_wsL_asks_r3 (goodIn_app ggL_areLegs_L_asks_wsL_asks_r4 (goodIn_app ggL_areLegs_L_asks_wsL_asks_r5 (goodIn_app ggL_areLegs_L_asks_wsL_asks_r6 (goodIn_app ggL_areLegs_L_asks_wsL_asks_r7 ggL_areLegs_L_asks_wsL_asks_r8))))))) ggL_areLegs_L_asks_wsX50) ggL_areLegs_L_asks_wsX00) ggL_areLegs_L_asks_wsX20) ggL_areLegs_L_asks_wsX10) ggL_areLegs_L_asks_wsX30)) (goodIn_sub (fun _ h => List.mem_cons_of_mem _ (List.mem_append_left _ (List.mem_append_right _ h))) (by decide +kernel))) (goodIn_sub (fun _ h => List.mem_cons_of_mem _ (List.mem_append_right _ h)) (by decide +kernel))
set_option maxRecDepth 20000 in
theorem gL_areLegs_L_asks : GoodIn wsL_areLegs (va_wsS RL 79 yL_asks wsL_asks) := goodIn_app (goodIn_of _ (by decide +kernel)) ggL_areLegs_L_asks
set_option maxRecDepth 20000 in
theorem ggL_areLegs_X5_worth : GoodIn wsL_areLegs wsX5_worth := goodIn_r _ [182, 83, 84, 85, 10, 86, 87, 88, 89, 90, 91, 92, 93, 94, 95, 96, 97, 98, 99, 100, 101, 102, 103, 104, 105, 106, 65, 107, 108, 109, 110, 111, 112, 113, 114, 115, 116, 117, 118, 119, 120, 121, 122, 123, 124, 125, 47, 48, 49, 50, 51, 20, 21, 22, 23, 24, 25, 26, 27, 28, 29, 30, 31, 32, 33, 34, 35, 36, 37, 17, 18, 19, 126, 127, 128, 129, 130, 131, 132, 133, 134, 135, 136, 137, 138, 139, 140, 141, 142, 143, 246, 247, 248, 249, 250, 251, 252, 253, 254, 255, 256, 257, 258, 259, 272, 273, 274, 275, 276, 277, 278, 279, 265, 266, 267, 268, 269, 270, 271, 260, 261, 262, 263, 264] (by decide +kernel) (by decide +kernel)
set_option maxRecDepth 20000 in
theorem gL_areLegs_X5_worth : GoodIn wsL_areLegs (wsV RL 83 RX5 yX5_worth wsX5_worth) := goodIn_app (goodIn_of _ (by decide +kernel)) ggL_areLegs_X5_worth
set_option maxRecDepth 20000 in
theorem ggL_areLegs_X5_worthByTable : GoodIn wsL_areLegs wsX5_worthByTable := goodIn_r _ [186, 187, 62, 121, 122, 123, 10, 124, 125, 112, 113, 114, 47, 48, 49, 50, 51, 20, 21, 22, 23, 24, 25, 26, 27, 28, 29, 30, 31, 32, 33, 34, 35, 36, 37, 188, 189, 190, 191, 192, 193, 194, 195, 196, 197, 198, 199, 200, 130, 131, 106, 65, 107, 108, 109, 110, 111, 201, 202, 203, 204, 64, 66, 67, 68, 69, 205, 206, 207, 208, 209, 210, 211, 212, 213, 214, 246, 247, 248, 249, 250, 251, 252, 253, 254, 255, 256, 257, 258, 259, 260, 261, 262, 263, 264, 280, 265, 266, 267, 268, 269, 270, 271] (by decide +kernel) (by decide +kernel)
set_option maxRecDepth 20000 in
theorem gL_areLegs_X5_worthByTable : GoodIn wsL_areLegs (wsV RL 87 RX5 yX5_worthByTable wsX5_worthByTable) := goodIn_app (goodIn_of _ (by decide +kernel)) ggL_areLegs_X5_worthByTable
set_option maxRecDepth 20000 in
theorem ggL_areLegs_X5_revenue : GoodIn wsL_areLegs wsX5_revenue := goodIn_r _ [218, 219, 220, 221, 10, 222, 24, 25, 26, 27, 28, 29, 246, 247, 248, 249, 250, 251, 252, 253, 254, 255, 256, 257, 258, 259, 260, 261, 262, 263, 264] (by decide +kernel) (by decide +kernel)
set_option maxRecDepth 20000 in
theorem gL_areLegs_X5_revenue : GoodIn wsL_areLegs (wsV RL 90 RX5 yX5_revenue wsX5_revenue) := goodIn_app (goodIn_of _ (by decide +kernel)) ggL_areLegs_X5_revenue
set_option maxRecDepth 20000 in
theorem ggL_areLegs_X5_earned : GoodIn wsL_areLegs wsX5_earned := goodIn_r _ [226, 227, 246, 247, 248, 249, 250, 251, 252, 253, 254, 255, 256, 257, 258, 259] (by decide +kernel) (by decide +kernel)
set_option maxRecDepth 20000 in
theorem gL_areLegs_X5_earned : GoodIn wsL_areLegs (wsV RL 93 RX5 yX5_earned wsX5_earned) := goodIn_app (goodIn_of _ (by decide +kernel)) ggL_areLegs_X5_earned
set_option maxRecDepth 20000 in
theorem ggL_areLegs_X5_days : GoodIn wsL_areLegs wsX5_days := goodIn_r _ [231, 63, 246, 247, 248, 249, 250, 251, 252, 253, 254, 255, 256, 257, 258, 259] (by decide +kernel) (by decide +kernel)
set_option maxRecDepth 20000 in
theorem gL_areLegs_X5_days : GoodIn wsL_areLegs (wsV RL 97 RX5 yX5_days wsX5_days) := goodIn_app (goodIn_of _ (by decide +kernel)) ggL_areLegs_X5_days
set_option maxRecDepth 20000 in
theorem ggL_areLegs_X5_products : GoodIn wsL_areLegs wsX5_products := goodIn_r _ [235, 236, 246, 247, 248, 249, 250, 251, 252, 253, 254, 255, 256, 257, 258, 259] (by decide +kernel) (by decide +kernel)
set_option maxRecDepth 20000 in
theorem gL_areLegs_X5_products : GoodIn wsL_areLegs (wsV RL 100 RX5 yX5_products wsX5_products) := goodIn_app (goodIn_of _ (by decide +kernel)) ggL_areLegs_X5_products
set_option maxRecDepth 20000 in
theorem ggL_areLegs_X5_bid : GoodIn wsL_areLegs wsX5_bid := goodIn_ca (goodIn_r _ [78, 12, 13, 14, 15, 10, 16, 17, 18, 19, 79, 80, 81, 82, 83, 84, 85, 86, 87, 88, 89, 90, 91, 92, 93, 94, 95, 96, 97, 98, 99, 100, 101, 102, 103, 104, 105, 106, 65, 107, 108, 109, 110, 111, 112, 113, 114, 115, 116, 117, 118, 119, 120, 121, 122, 123, 124, 125, 47, 48, 49, 50, 51, 20, 21, 22, 23, 24, 25, 26, 27, 28, 29, 30, 31, 32, 33, 34, 35, 36, 37, 126, 127, 128, 129, 130, 131, 132, 133, 134, 135, 136, 137, 138, 139, 140, 141, 142, 143, 246, 247, 248, 249, 250, 251, 252, 253, 254, 255, 256, 257, 258, 259, 272, 273, 274, 275, 276, 277, 278, 279, 265, 266, 267, 268, 269, 270, 271, 260, 261, 262, 263, 264] (by decide +kernel) (by decide +kernel)) (goodIn_sub (fun _ h => List.mem_cons_of_mem _ (List.mem_append_left _ (List.mem_append_right _ h))) (by decide +kernel))
set_option maxRecDepth 20000 in
theorem gL_areLegs_X5_bid : GoodIn wsL_areLegs (wsV RL 60 RX5 yX5_bid wsX5_bid) := goodIn_app (goodIn_of _ (by decide +kernel)) ggL_areLegs_X5_bid
set_option maxRecDepth 20000 in
theorem ggL_areLegs_L_booked : GoodIn wsL_areLegs wsL_booked := goodIn_r _ [239] (by decide +kernel) (by decide +kernel)
set_option maxRecDepth 20000 in
theorem gL_areLegs_L_booked : GoodIn wsL_areLegs (va_wsS RL 103 yL_booked wsL_booked) := goodIn_app (goodIn_of _ (by decide +kernel)) ggL_areLegs_L_booked
set_option maxRecDepth 20000 in
theorem ggL_areLegs_X5_booked : GoodIn wsL_areLegs wsX5_booked := goodIn_ca (goodIn_r _ [11, 12, 13, 14, 15, 10, 16, 17, 18, 19, 20, 21, 22, 23, 24, 25, 26, 27, 28, 29, 30, 31, 32, 33, 34, 35, 36, 37, 246, 247, 248, 249, 250, 251, 252, 253, 254, 255, 256, 257, 258, 259, 260, 261, 262, 263, 264] (by decide +kernel) (by decide +kernel)) (goodIn_sub (fun _ h => List.mem_cons_of_mem _ (List.mem_append_left _ (List.mem_append_right _ h))) (by decide +kernel))
set_option maxRecDepth 20000 in
theorem gL_areLegs_X5_booked : GoodIn wsL_areLegs (wsV RL 51 RX5 yX5_booked wsX5_booked) := goodIn_app (goodIn_of _ (by decide +kernel)) ggL_areLegs_X5_booked
set_option maxRecDepth 20000 in
theorem ggL_areLegs_X5_authorised : GoodIn wsL_areLegs wsX5_authorised := goodIn_ca (goodIn_r _ [41, 12, 13, 14, 15, 10, 16, 17, 18, 19, 42, 43, 44, 45, 46, 47, 48, 49, 50, 51, 246, 247, 248, 249, 250, 251, 252, 253, 254, 255, 256, 257, 258, 259] (by decide +kernel) (by decide +kernel)) (goodIn_sub (fun _ h => List.mem_cons_of_mem _ (List.mem_append_left _ (List.mem_append_right _ h))) (by decide +kernel))
set_option maxRecDepth 20000 in
theorem gL_areLegs_X5_authorised : GoodIn wsL_areLegs (wsV RL 54 RX5 yX5_authorised wsX5_authorised) := goodIn_app (goodIn_of _ (by decide +kernel)) ggL_areLegs_X5_authorised
set_option maxRecDepth 20000 in
theorem ggL_areLegs_L_authorised : GoodIn wsL_areLegs wsL_authorised := goodIn_r _ [242] (by decide +kernel) (by decide +kernel)
set_option maxRecDepth 20000 in
theorem gL_areLegs_L_authorised : GoodIn wsL_areLegs (va_wsS RL 106 yL_authorised wsL_authorised) := goodIn_app (goodIn_of _ (by decide +kernel)) ggL_areLegs_L_authorised
set_option maxRecDepth 20000 in
theorem ggL_areLegs_X5_protectedSeats : GoodIn wsL_areLegs wsX5_protectedSeats := goodIn_ca (goodIn_ca (goodIn_r _ [55, 12, 13, 56, 57, 14, 15, 10, 16, 17, 18, 19, 58, 59, 60, 61, 62, 63, 64, 65, 66, 67, 68, 69, 70, 71, 72, 73, 74, 246, 247, 248, 249, 250, 251, 252, 253, 254, 255, 256, 257, 258, 259, 265, 266, 267, 268, 269, 270, 271] (by decide +kernel) (by decide +kernel)) (goodIn_sub (fun _ h => List.mem_cons_of_mem _ (List.mem_append_left _ (List.mem_append_right _ h))) (by decide +kernel))) (goodIn_sub (fun _ h => List.mem_cons_of_mem _ (List.mem_append_right _ h)) (by decide +kernel))
set_option maxRecDepth 20000 in
theorem gL_areLegs_X5_protectedSeats : GoodIn wsL_areLegs (wsV RL 57 RX5 yX5_protectedSeats wsX5_protectedSeats) := goodIn_app (goodIn_of _ (by decide +kernel)) ggL_areLegs_X5_protectedSeats
set_option maxRecDepth 20000 in
theorem ggL_areLegs_L_guarded : GoodIn wsL_areLegs wsL_guarded := goodIn_r _ [245] (by decide +kernel) (by decide +kernel)
set_option maxRecDepth 20000 in
theorem gL_areLegs_L_guarded : GoodIn wsL_areLegs (va_wsS RL 109 yL_guarded wsL_guarded) := goodIn_app (goodIn_of _ (by decide +kernel)) ggL_areLegs_L_guarded
