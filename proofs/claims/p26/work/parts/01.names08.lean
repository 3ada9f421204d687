theorem dX5_bookingAt_13 : decode cX5_bookingAt 13 = .ok (.aload_n 0, 1) := by decide +kernel
theorem dX5_bookingAt_14 : decode cX5_bookingAt 14 = .ok (.getfield 24, 3) := by decide +kernel
theorem dX5_bookingAt_17 : decode cX5_bookingAt 17 = .ok (.arraylength, 1) := by decide +kernel
theorem dX5_bookingAt_18 : decode cX5_bookingAt 18 = .ok (.if_icmp .ge 12, 3) := by decide +kernel
theorem dX5_bookingAt_21 : decode cX5_bookingAt 21 = .ok (.aload_n 0, 1) := by decide +kernel
theorem dX5_bookingAt_22 : decode cX5_bookingAt 22 = .ok (.getfield 24, 3) := by decide +kernel
theorem dX5_bookingAt_25 : decode cX5_bookingAt 25 = .ok (.iload_n 1, 1) := by decide +kernel
theorem dX5_bookingAt_26 : decode cX5_bookingAt 26 = .ok (.aaload, 1) := by decide +kernel
theorem dX5_bookingAt_27 : decode cX5_bookingAt 27 = .ok (.goto 4, 3) := by decide +kernel
theorem dX5_bookingAt_30 : decode cX5_bookingAt 30 = .ok (.aconst_null, 1) := by decide +kernel
theorem dX5_bookingAt_31 : decode cX5_bookingAt 31 = .ok (.areturn, 1) := by decide +kernel
theorem dX5_enter_0 : decode cX5_enter 0 = .ok (.aload_n 0, 1) := by decide +kernel
theorem dX5_enter_1 : decode cX5_enter 1 = .ok (.getfield 46, 3) := by decide +kernel
theorem dX5_enter_4 : decode cX5_enter 4 = .ok (.istore_n 2, 1) := by decide +kernel
theorem dX5_enter_5 : decode cX5_enter 5 = .ok (.iload_n 2, 1) := by decide +kernel
theorem dX5_enter_6 : decode cX5_enter 6 = .ok (.ifCond .lt 29, 3) := by decide +kernel
theorem dX5_enter_9 : decode cX5_enter 9 = .ok (.iload_n 2, 1) := by decide +kernel
theorem dX5_enter_10 : decode cX5_enter 10 = .ok (.aload_n 0, 1) := by decide +kernel
theorem dX5_enter_11 : decode cX5_enter 11 = .ok (.getfield 24, 3) := by decide +kernel
theorem dX5_enter_14 : decode cX5_enter 14 = .ok (.arraylength, 1) := by decide +kernel
theorem dX5_enter_15 : decode cX5_enter 15 = .ok (.if_icmp .ge 20, 3) := by decide +kernel
theorem dX5_enter_18 : decode cX5_enter 18 = .ok (.aload_n 0, 1) := by decide +kernel
theorem dX5_enter_19 : decode cX5_enter 19 = .ok (.getfield 24, 3) := by decide +kernel
theorem dX5_enter_22 : decode cX5_enter 22 = .ok (.iload_n 2, 1) := by decide +kernel
theorem dX5_enter_23 : decode cX5_enter 23 = .ok (.aload_n 1, 1) := by decide +kernel
theorem dX5_enter_24 : decode cX5_enter 24 = .ok (.aastore, 1) := by decide +kernel
theorem dX5_enter_25 : decode cX5_enter 25 = .ok (.aload_n 0, 1) := by decide +kernel
theorem dX5_enter_26 : decode cX5_enter 26 = .ok (.dup, 1) := by decide +kernel
theorem dX5_enter_27 : decode cX5_enter 27 = .ok (.getfield 46, 3) := by decide +kernel
theorem dX5_enter_30 : decode cX5_enter 30 = .ok (.iconst 1, 1) := by decide +kernel
theorem dX5_enter_31 : decode cX5_enter 31 = .ok (.iadd, 1) := by decide +kernel
theorem dX5_enter_32 : decode cX5_enter 32 = .ok (.putfield 46, 3) := by decide +kernel
theorem dX5_enter_35 : decode cX5_enter 35 = .ok (.iload_n 2, 1) := by decide +kernel
theorem dX5_enter_36 : decode cX5_enter 36 = .ok (.ireturn, 1) := by decide +kernel
set_option maxRecDepth 20000 in
theorem ggX5_faresOfToday_X5_bookingAt : GoodIn wsX5_faresOfToday wsX5_bookingAt := goodIn_r _ [6, 1, 7, 8, 9, 10, 11, 12, 13, 14, 15, 16, 17, 18, 19, 20, 21] (by decide +kernel) (by decide +kernel)
set_option maxRecDepth 20000 in
theorem gX5_faresOfToday_X5_bookingAt : GoodIn wsX5_faresOfToday (wsV RX5 165 RX5 yX5_bookingAt wsX5_bookingAt) := goodIn_app (goodIn_of _ (by decide +kernel)) ggX5_faresOfToday_X5_bookingAt
theorem dX5_faresOfToday_0 : decode cX5_faresOfToday 0 = .ok (.iconst 0, 1) := by decide +kernel
theorem dX5_faresOfToday_1 : decode cX5_faresOfToday 1 = .ok (.istore_n 1, 1) := by decide +kernel
theorem dX5_faresOfToday_2 : decode cX5_faresOfToday 2 = .ok (.iconst 0, 1) := by decide +kernel
theorem dX5_faresOfToday_3 : decode cX5_faresOfToday 3 = .ok (.istore_n 2, 1) := by decide +kernel
theorem dX5_faresOfToday_4 : decode cX5_faresOfToday 4 = .ok (.iload_n 2, 1) := by decide +kernel
theorem dX5_faresOfToday_5 : decode cX5_faresOfToday 5 = .ok (.aload_n 0, 1) := by decide +kernel
theorem dX5_faresOfToday_6 : decode cX5_faresOfToday 6 = .ok (.getfield 46, 3) := by decide +kernel
theorem dX5_faresOfToday_9 : decode cX5_faresOfToday 9 = .ok (.if_icmp .ge 33, 3) := by decide +kernel
theorem dX5_faresOfToday_12 : decode cX5_faresOfToday 12 = .ok (.aload_n 0, 1) := by decide +kernel
theorem dX5_faresOfToday_13 : decode cX5_faresOfToday 13 = .ok (.iload_n 2, 1) := by decide +kernel
theorem dX5_faresOfToday_14 : decode cX5_faresOfToday 14 = .ok (.invokevirtual 165, 3) := by decide +kernel
theorem dX5_faresOfToday_17 : decode cX5_faresOfToday 17 = .ok (.astore_n 3, 1) := by decide +kernel
theorem dX5_faresOfToday_18 : decode cX5_faresOfToday 18 = .ok (.aload_n 3, 1) := by decide +kernel
theorem dX5_faresOfToday_19 : decode cX5_faresOfToday 19 = .ok (.ifnull 17, 3) := by decide +kernel
theorem dX5_faresOfToday_22 : decode cX5_faresOfToday 22 = .ok (.aload_n 3, 1) := by decide +kernel
theorem dX5_faresOfToday_23 : decode cX5_faresOfToday 23 = .ok (.getfield 171, 3) := by decide +kernel
theorem dX5_faresOfToday_26 : decode cX5_faresOfToday 26 = .ok (.ifCond .ne 10, 3) := by decide +kernel
theorem dX5_faresOfToday_29 : decode cX5_faresOfToday 29 = .ok (.iload_n 1, 1) := by decide +kernel
theorem dX5_faresOfToday_30 : decode cX5_faresOfToday 30 = .ok (.aload_n 3, 1) := by decide +kernel
theorem dX5_faresOfToday_31 : decode cX5_faresOfToday 31 = .ok (.getfield 245, 3) := by decide +kernel
theorem dX5_faresOfToday_34 : decode cX5_faresOfToday 34 = .ok (.iadd, 1) := by decide +kernel
theorem dX5_faresOfToday_35 : decode cX5_faresOfToday 35 = .ok (.istore_n 1, 1) := by decide +kernel
theorem dX5_faresOfToday_36 : decode cX5_faresOfToday 36 = .ok (.iinc 2 1, 3) := by decide +kernel
theorem dX5_faresOfToday_39 : decode cX5_faresOfToday 39 = .ok (.goto (-35), 3) := by decide +kernel
theorem dX5_faresOfToday_42 : decode cX5_faresOfToday 42 = .ok (.iload_n 1, 1) := by decide +kernel
theorem dX5_faresOfToday_43 : decode cX5_faresOfToday 43 = .ok (.ireturn, 1) := by decide +kernel
set_option maxRecDepth 20000 in
theorem ggX5_worthWithMore_X1_clear : GoodIn wsX5_worthWithMore wsX1_clear := goodIn_r _ [6, 7, 8, 9, 10, 11, 12, 100, 101, 102, 103, 104, 105, 106, 107] (by decide +kernel) (by decide +kernel)
set_option maxRecDepth 20000 in
theorem gX5_worthWithMore_X1_clear_n248 : GoodIn wsX5_worthWithMore (wsX1_clear) := ggX5_worthWithMore_X1_clear
set_option maxRecDepth 20000 in
theorem ggX5_worthWithMore_X1_add : GoodIn wsX5_worthWithMore wsX1_add := goodIn_r _ [15, 16, 17, 18, 4, 19, 7, 10, 12, 8, 11, 9, 20, 21, 22, 23, 24, 25, 26, 27, 28, 29, 30, 31, 32, 33, 34, 35, 108, 109, 110, 111, 112, 113, 114, 100, 101, 102, 103, 104, 105, 106, 107] (by decide +kernel) (by decide +kernel)
set_option maxRecDepth 20000 in
theorem gX5_worthWithMore_X1_add_n249 : GoodIn wsX5_worthWithMore (wsX1_add) := ggX5_worthWithMore_X1_add
set_option maxRecDepth 20000 in
theorem ggX5_worthWithMore_X5_leftOn : GoodIn wsX5_worthWithMore wsX5_leftOn := goodIn_r _ [40, 41, 27, 28, 29, 42, 43, 44, 39, 45, 46, 47, 48, 49, 50, 51, 52, 53, 54, 55, 56, 57, 58, 59, 60, 61, 62, 63, 64, 86, 87, 88, 89, 90, 91, 92, 93, 94, 95, 96, 97, 98, 99, 115, 116, 117, 118, 119] (by decide +kernel) (by decide +kernel)
set_option maxRecDepth 20000 in
theorem gX5_worthWithMore_X5_leftOn : GoodIn wsX5_worthWithMore (wsV RX5 205 RX5 yX5_leftOn wsX5_leftOn) := goodIn_app (goodIn_of _ (by decide +kernel)) ggX5_worthWithMore_X5_leftOn
set_option maxRecDepth 20000 in
theorem ggX5_worthWithMore_X5_within : GoodIn wsX5_worthWithMore wsX5_within := goodIn_r _ [67] (by decide +kernel) (by decide +kernel)
set_option maxRecDepth 20000 in
theorem gX5_worthWithMore_X5_within : GoodIn wsX5_worthWithMore (va_wsS RX5 68 yX5_within wsX5_within) := goodIn_app (goodIn_of _ (by decide +kernel)) ggX5_worthWithMore_X5_within
set_option maxRecDepth 20000 in
theorem ggX5_worthWithMore_X1_mostFor : GoodIn wsX5_worthWithMore wsX1_mostFor := goodIn_r _ [70, 12, 71, 72, 28, 73, 74, 27, 29, 75, 31, 76, 77, 34, 35, 78, 79, 80, 4, 81, 10, 7, 82, 83, 84, 85, 11, 8, 9, 100, 101, 102, 103, 104, 105, 106, 107] (by decide +kernel) (by decide +kernel)
set_option maxRecDepth 20000 in
theorem gX5_worthWithMore_X1_mostFor_n252 : GoodIn wsX5_worthWithMore (wsX1_mostFor) := ggX5_worthWithMore_X1_mostFor
theorem dX5_worthWithMore_0 : decode cX5_worthWithMore 0 = .ok (.aload_n 0, 1) := by decide +kernel
theorem dX5_worthWithMore_1 : decode cX5_worthWithMore 1 = .ok (.getfield 31, 3) := by decide +kernel
theorem dX5_worthWithMore_4 : decode cX5_worthWithMore 4 = .ok (.invokevirtual 248, 3) := by decide +kernel
theorem dX5_worthWithMore_7 : decode cX5_worthWithMore 7 = .ok (.aload_n 0, 1) := by decide +kernel
theorem dX5_worthWithMore_8 : decode cX5_worthWithMore 8 = .ok (.getfield 19, 3) := by decide +kernel
theorem dX5_worthWithMore_11 : decode cX5_worthWithMore 11 = .ok (.astore 4, 2) := by decide +kernel
theorem dX5_worthWithMore_13 : decode cX5_worthWithMore 13 = .ok (.aload 4, 2) := by decide +kernel
theorem dX5_worthWithMore_15 : decode cX5_worthWithMore 15 = .ok (.arraylength, 1) := by decide +kernel
theorem dX5_worthWithMore_16 : decode cX5_worthWithMore 16 = .ok (.istore 5, 2) := by decide +kernel
theorem dX5_worthWithMore_18 : decode cX5_worthWithMore 18 = .ok (.iconst 0, 1) := by decide +kernel
theorem dX5_worthWithMore_19 : decode cX5_worthWithMore 19 = .ok (.istore 6, 2) := by decide +kernel
theorem dX5_worthWithMore_21 : decode cX5_worthWithMore 21 = .ok (.iload 6, 2) := by decide +kernel
theorem dX5_worthWithMore_23 : decode cX5_worthWithMore 23 = .ok (.iload 5, 2) := by decide +kernel
theorem dX5_worthWithMore_25 : decode cX5_worthWithMore 25 = .ok (.if_icmp .ge 30, 3) := by decide +kernel
theorem dX5_worthWithMore_28 : decode cX5_worthWithMore 28 = .ok (.aload 4, 2) := by decide +kernel
theorem dX5_worthWithMore_30 : decode cX5_worthWithMore 30 = .ok (.iload 6, 2) := by decide +kernel
theorem dX5_worthWithMore_32 : decode cX5_worthWithMore 32 = .ok (.aaload, 1) := by decide +kernel
theorem dX5_worthWithMore_33 : decode cX5_worthWithMore 33 = .ok (.astore 7, 2) := by decide +kernel
theorem dX5_worthWithMore_35 : decode cX5_worthWithMore 35 = .ok (.aload 7, 2) := by decide +kernel
theorem dX5_worthWithMore_37 : decode cX5_worthWithMore 37 = .ok (.ifnull 12, 3) := by decide +kernel
theorem dX5_worthWithMore_40 : decode cX5_worthWithMore 40 = .ok (.aload_n 0, 1) := by decide +kernel
theorem dX5_worthWithMore_41 : decode cX5_worthWithMore 41 = .ok (.getfield 31, 3) := by decide +kernel
theorem dX5_worthWithMore_44 : decode cX5_worthWithMore 44 = .ok (.aload 7, 2) := by decide +kernel
theorem dX5_worthWithMore_46 : decode cX5_worthWithMore 46 = .ok (.invokevirtual 249, 3) := by decide +kernel
theorem dX5_worthWithMore_49 : decode cX5_worthWithMore 49 = .ok (.iinc 6 1, 3) := by decide +kernel
theorem dX5_worthWithMore_52 : decode cX5_worthWithMore 52 = .ok (.goto (-31), 3) := by decide +kernel
theorem dX5_worthWithMore_55 : decode cX5_worthWithMore 55 = .ok (.aload_n 0, 1) := by decide +kernel
theorem dX5_worthWithMore_56 : decode cX5_worthWithMore 56 = .ok (.iconst 0, 1) := by decide +kernel
theorem dX5_worthWithMore_57 : decode cX5_worthWithMore 57 = .ok (.invokevirtual 205, 3) := by decide +kernel
theorem dX5_worthWithMore_60 : decode cX5_worthWithMore 60 = .ok (.iconst 0, 1) := by decide +kernel
theorem dX5_worthWithMore_61 : decode cX5_worthWithMore 61 = .ok (.iload_n 1, 1) := by decide +kernel
theorem dX5_worthWithMore_62 : decode cX5_worthWithMore 62 = .ok (.iload_n 2, 1) := by decide +kernel
theorem dX5_worthWithMore_63 : decode cX5_worthWithMore 63 = .ok (.invokestatic 68, 3) := by decide +kernel
theorem dX5_worthWithMore_66 : decode cX5_worthWithMore 66 = .ok (.ifCond .eq 7, 3) := by decide +kernel
theorem dX5_worthWithMore_69 : decode cX5_worthWithMore 69 = .ok (.iload_n 3, 1) := by decide +kernel
theorem dX5_worthWithMore_70 : decode cX5_worthWithMore 70 = .ok (.goto 4, 3) := by decide +kernel
theorem dX5_worthWithMore_73 : decode cX5_worthWithMore 73 = .ok (.iconst 0, 1) := by decide +kernel
theorem dX5_worthWithMore_74 : decode cX5_worthWithMore 74 = .ok (.iadd, 1) := by decide +kernel
theorem dX5_worthWithMore_75 : decode cX5_worthWithMore 75 = .ok (.istore 4, 2) := by decide +kernel
theorem dX5_worthWithMore_77 : decode cX5_worthWithMore 77 = .ok (.aload_n 0, 1) := by decide +kernel
theorem dX5_worthWithMore_78 : decode cX5_worthWithMore 78 = .ok (.iconst 1, 1) := by decide +kernel
theorem dX5_worthWithMore_79 : decode cX5_worthWithMore 79 = .ok (.invokevirtual 205, 3) := by decide +kernel
theorem dX5_worthWithMore_82 : decode cX5_worthWithMore 82 = .ok (.iconst 1, 1) := by decide +kernel
theorem dX5_worthWithMore_83 : decode cX5_worthWithMore 83 = .ok (.iload_n 1, 1) := by decide +kernel
theorem dX5_worthWithMore_84 : decode cX5_worthWithMore 84 = .ok (.iload_n 2, 1) := by decide +kernel
theorem dX5_worthWithMore_85 : decode cX5_worthWithMore 85 = .ok (.invokestatic 68, 3) := by decide +kernel
theorem dX5_worthWithMore_88 : decode cX5_worthWithMore 88 = .ok (.ifCond .eq 7, 3) := by decide +kernel
theorem dX5_worthWithMore_91 : decode cX5_worthWithMore 91 = .ok (.iload_n 3, 1) := by decide +kernel
theorem dX5_worthWithMore_92 : decode cX5_worthWithMore 92 = .ok (.goto 4, 3) := by decide +kernel
theorem dX5_worthWithMore_95 : decode cX5_worthWithMore 95 = .ok (.iconst 0, 1) := by decide +kernel
theorem dX5_worthWithMore_96 : decode cX5_worthWithMore 96 = .ok (.iadd, 1) := by decide +kernel
theorem dX5_worthWithMore_97 : decode cX5_worthWithMore 97 = .ok (.istore 5, 2) := by decide +kernel
theorem dX5_worthWithMore_99 : decode cX5_worthWithMore 99 = .ok (.aload_n 0, 1) := by decide +kernel
theorem dX5_worthWithMore_100 : decode cX5_worthWithMore 100 = .ok (.iconst 2, 1) := by decide +kernel
theorem dX5_worthWithMore_101 : decode cX5_worthWithMore 101 = .ok (.invokevirtual 205, 3) := by decide +kernel
theorem dX5_worthWithMore_104 : decode cX5_worthWithMore 104 = .ok (.iconst 2, 1) := by decide +kernel
theorem dX5_worthWithMore_105 : decode cX5_worthWithMore 105 = .ok (.iload_n 1, 1) := by decide +kernel
theorem dX5_worthWithMore_106 : decode cX5_worthWithMore 106 = .ok (.iload_n 2, 1) := by decide +kernel
theorem dX5_worthWithMore_107 : decode cX5_worthWithMore 107 = .ok (.invokestatic 68, 3) := by decide +kernel
theorem dX5_worthWithMore_110 : decode cX5_worthWithMore 110 = .ok (.ifCond .eq 7, 3) := by decide +kernel
theorem dX5_worthWithMore_113 : decode cX5_worthWithMore 113 = .ok (.iload_n 3, 1) := by decide +kernel
theorem dX5_worthWithMore_114 : decode cX5_worthWithMore 114 = .ok (.goto 4, 3) := by decide +kernel
theorem dX5_worthWithMore_117 : decode cX5_worthWithMore 117 = .ok (.iconst 0, 1) := by decide +kernel
theorem dX5_worthWithMore_118 : decode cX5_worthWithMore 118 = .ok (.iadd, 1) := by decide +kernel
theorem dX5_worthWithMore_119 : decode cX5_worthWithMore 119 = .ok (.istore 6, 2) := by decide +kernel
theorem dX5_worthWithMore_121 : decode cX5_worthWithMore 121 = .ok (.aload_n 0, 1) := by decide +kernel
theorem dX5_worthWithMore_122 : decode cX5_worthWithMore 122 = .ok (.getfield 31, 3) := by decide +kernel
theorem dX5_worthWithMore_125 : decode cX5_worthWithMore 125 = .ok (.iload 4, 2) := by decide +kernel
theorem dX5_worthWithMore_127 : decode cX5_worthWithMore 127 = .ok (.iload 5, 2) := by decide +kernel
theorem dX5_worthWithMore_129 : decode cX5_worthWithMore 129 = .ok (.iload 6, 2) := by decide +kernel
theorem dX5_worthWithMore_131 : decode cX5_worthWithMore 131 = .ok (.invokevirtual 252, 3) := by decide +kernel
theorem dX5_worthWithMore_134 : decode cX5_worthWithMore 134 = .ok (.ireturn, 1) := by decide +kernel
set_option maxRecDepth 20000 in
theorem ggX5_bidsOver_X5_worthWithMore : GoodIn wsX5_bidsOver wsX5_worthWithMore := goodIn_r _ [5, 6, 7, 8, 9, 10, 11, 12, 13, 14, 15, 16, 17, 18, 19, 20, 21, 22, 23, 24, 25, 26, 27, 28, 29, 30, 31, 32, 33, 34, 35, 36, 37, 38, 39, 40, 41, 42, 43, 4, 44, 45, 46, 47, 48, 49, 50, 51, 52, 53, 54, 55, 56, 57, 58, 59, 60, 61, 62, 63, 64, 65, 66, 67, 68, 69, 70, 71, 72, 73, 74, 75, 76, 77, 78, 79, 80, 81, 82, 83, 84, 85, 86, 87, 88, 89, 90, 91, 92, 93, 94, 95, 96, 97, 98, 99, 100, 101, 102, 103, 104, 105, 106, 107, 108, 109, 110, 111, 112, 113, 114, 115, 116, 117, 118, 119, 120, 121, 122, 123] (by decide +kernel) (by decide +kernel)
set_option maxRecDepth 20000 in
theorem gX5_bidsOver_X5_worthWithMore : GoodIn wsX5_bidsOver (wsV RX5 202 RX5 yX5_worthWithMore wsX5_worthWithMore) := goodIn_app (goodIn_of _ (by decide +kernel)) ggX5_bidsOver_X5_worthWithMore
theorem dX5_bidsOver_0 : decode cX5_bidsOver 0 = .ok (.aload_n 0, 1) := by decide +kernel
theorem dX5_bidsOver_1 : decode cX5_bidsOver 1 = .ok (.iconst 0, 1) := by decide +kernel
theorem dX5_bidsOver_2 : decode cX5_bidsOver 2 = .ok (.iconst 0, 1) := by decide +kernel
theorem dX5_bidsOver_3 : decode cX5_bidsOver 3 = .ok (.iconst 0, 1) := by decide +kernel
theorem dX5_bidsOver_4 : decode cX5_bidsOver 4 = .ok (.invokevirtual 202, 3) := by decide +kernel
theorem dX5_bidsOver_7 : decode cX5_bidsOver 7 = .ok (.istore_n 3, 1) := by decide +kernel
theorem dX5_bidsOver_8 : decode cX5_bidsOver 8 = .ok (.iconst 0, 1) := by decide +kernel
theorem dX5_bidsOver_9 : decode cX5_bidsOver 9 = .ok (.istore 4, 2) := by decide +kernel
theorem dX5_bidsOver_11 : decode cX5_bidsOver 11 = .ok (.iload_n 1, 1) := by decide +kernel
theorem dX5_bidsOver_12 : decode cX5_bidsOver 12 = .ok (.istore 5, 2) := by decide +kernel
theorem dX5_bidsOver_14 : decode cX5_bidsOver 14 = .ok (.iload 5, 2) := by decide +kernel
theorem dX5_bidsOver_16 : decode cX5_bidsOver 16 = .ok (.iload_n 2, 1) := by decide +kernel
theorem dX5_bidsOver_17 : decode cX5_bidsOver 17 = .ok (.if_icmp .gt 25, 3) := by decide +kernel
theorem dX5_bidsOver_20 : decode cX5_bidsOver 20 = .ok (.iload 4, 2) := by decide +kernel
theorem dX5_bidsOver_22 : decode cX5_bidsOver 22 = .ok (.aload_n 0, 1) := by decide +kernel
theorem dX5_bidsOver_23 : decode cX5_bidsOver 23 = .ok (.iload 5, 2) := by decide +kernel
theorem dX5_bidsOver_25 : decode cX5_bidsOver 25 = .ok (.iload 5, 2) := by decide +kernel
theorem dX5_bidsOver_27 : decode cX5_bidsOver 27 = .ok (.iconst 1, 1) := by decide +kernel
theorem dX5_bidsOver_28 : decode cX5_bidsOver 28 = .ok (.invokevirtual 202, 3) := by decide +kernel
theorem dX5_bidsOver_31 : decode cX5_bidsOver 31 = .ok (.iload_n 3, 1) := by decide +kernel
theorem dX5_bidsOver_32 : decode cX5_bidsOver 32 = .ok (.isub, 1) := by decide +kernel
theorem dX5_bidsOver_33 : decode cX5_bidsOver 33 = .ok (.iadd, 1) := by decide +kernel
theorem dX5_bidsOver_34 : decode cX5_bidsOver 34 = .ok (.istore 4, 2) := by decide +kernel
theorem dX5_bidsOver_36 : decode cX5_bidsOver 36 = .ok (.iinc 5 1, 3) := by decide +kernel
theorem dX5_bidsOver_39 : decode cX5_bidsOver 39 = .ok (.goto (-25), 3) := by decide +kernel
theorem dX5_bidsOver_42 : decode cX5_bidsOver 42 = .ok (.iload 4, 2) := by decide +kernel
theorem dX5_bidsOver_44 : decode cX5_bidsOver 44 = .ok (.ireturn, 1) := by decide +kernel
set_option maxRecDepth 20000 in
theorem ggX5_displacement_X5_worthWithMore : GoodIn wsX5_displacement wsX5_worthWithMore := goodIn_r _ [5, 6, 7, 8, 9, 10, 11, 12, 13, 14, 15, 16, 17, 18, 19, 20, 21, 22, 23, 24, 25, 26, 27, 28, 29, 30, 31, 32, 33, 34, 35, 36, 37, 38, 39, 40, 41, 42, 43, 4, 44, 45, 46, 47, 48, 49, 50, 51, 52, 53, 54, 55, 56, 57, 58, 59, 60, 61, 62, 63, 64, 65, 66, 67, 68, 69, 70, 71, 72, 73, 74, 75, 76, 77, 78, 79, 80, 81, 82, 83, 84, 85, 86, 87, 88, 89, 90, 91, 92, 93, 94, 95, 96, 97, 98, 99, 100, 101, 102, 103, 104, 105, 106, 107, 108, 109, 110, 111, 112, 113, 114, 115, 116, 117, 118, 119, 120, 121, 122, 123] (by decide +kernel) (by decide +kernel)
set_option maxRecDepth 20000 in
theorem gX5_displacement_X5_worthWithMore : GoodIn wsX5_displacement (wsV RX5 202 RX5 yX5_worthWithMore wsX5_worthWithMore) := goodIn_app (goodIn_of _ (by decide +kernel)) ggX5_displacement_X5_worthWithMore
theorem dX5_displacement_0 : decode cX5_displacement 0 = .ok (.aload_n 0, 1) := by decide +kernel
theorem dX5_displacement_1 : decode cX5_displacement 1 = .ok (.iconst 0, 1) := by decide +kernel
theorem dX5_displacement_2 : decode cX5_displacement 2 = .ok (.iconst 0, 1) := by decide +kernel
theorem dX5_displacement_3 : decode cX5_displacement 3 = .ok (.iconst 0, 1) := by decide +kernel
theorem dX5_displacement_4 : decode cX5_displacement 4 = .ok (.invokevirtual 202, 3) := by decide +kernel
theorem dX5_displacement_7 : decode cX5_displacement 7 = .ok (.aload_n 0, 1) := by decide +kernel
theorem dX5_displacement_8 : decode cX5_displacement 8 = .ok (.iload_n 1, 1) := by decide +kernel
theorem dX5_displacement_9 : decode cX5_displacement 9 = .ok (.iload_n 2, 1) := by decide +kernel
theorem dX5_displacement_10 : decode cX5_displacement 10 = .ok (.iload_n 3, 1) := by decide +kernel
theorem dX5_displacement_11 : decode cX5_displacement 11 = .ok (.ineg, 1) := by decide +kernel
theorem dX5_displacement_12 : decode cX5_displacement 12 = .ok (.invokevirtual 202, 3) := by decide +kernel
theorem dX5_displacement_15 : decode cX5_displacement 15 = .ok (.isub, 1) := by decide +kernel
theorem dX5_displacement_16 : decode cX5_displacement 16 = .ok (.ireturn, 1) := by decide +kernel
theorem dJ9_max_7cf53_0 : decode cJ9_max_7cf53 0 = .ok (.iload_n 0, 1) := by decide +kernel
theorem dJ9_max_7cf53_1 : decode cJ9_max_7cf53 1 = .ok (.iload_n 1, 1) := by decide +kernel
theorem dJ9_max_7cf53_2 : decode cJ9_max_7cf53 2 = .ok (.if_icmp .lt 7, 3) := by decide +kernel
theorem dJ9_max_7cf53_5 : decode cJ9_max_7cf53 5 = .ok (.iload_n 0, 1) := by decide +kernel
theorem dJ9_max_7cf53_6 : decode cJ9_max_7cf53 6 = .ok (.goto 4, 3) := by decide +kernel
theorem dJ9_max_7cf53_9 : decode cJ9_max_7cf53 9 = .ok (.iload_n 1, 1) := by decide +kernel
theorem dJ9_max_7cf53_10 : decode cJ9_max_7cf53 10 = .ok (.ireturn, 1) := by decide +kernel
theorem dJ9_min_7cf53_0 : decode cJ9_min_7cf53 0 = .ok (.iload_n 0, 1) := by decide +kernel
theorem dJ9_min_7cf53_1 : decode cJ9_min_7cf53 1 = .ok (.iload_n 1, 1) := by decide +kernel
theorem dJ9_min_7cf53_2 : decode cJ9_min_7cf53 2 = .ok (.if_icmp .gt 7, 3) := by decide +kernel
theorem dJ9_min_7cf53_5 : decode cJ9_min_7cf53 5 = .ok (.iload_n 0, 1) := by decide +kernel
theorem dJ9_min_7cf53_6 : decode cJ9_min_7cf53 6 = .ok (.goto 4, 3) := by decide +kernel
theorem dJ9_min_7cf53_9 : decode cJ9_min_7cf53 9 = .ok (.iload_n 1, 1) := by decide +kernel
theorem dJ9_min_7cf53_10 : decode cJ9_min_7cf53 10 = .ok (.ireturn, 1) := by decide +kernel
theorem dJ7_fill_53178_0 : decode cJ7_fill_53178 0 = .ok (.iconst 0, 1) := by decide +kernel
theorem dJ7_fill_53178_1 : decode cJ7_fill_53178 1 = .ok (.istore_n 2, 1) := by decide +kernel
theorem dJ7_fill_53178_2 : decode cJ7_fill_53178 2 = .ok (.aload_n 0, 1) := by decide +kernel
theorem dJ7_fill_53178_3 : decode cJ7_fill_53178 3 = .ok (.arraylength, 1) := by decide +kernel
theorem dJ7_fill_53178_4 : decode cJ7_fill_53178 4 = .ok (.istore_n 3, 1) := by decide +kernel
theorem dJ7_fill_53178_5 : decode cJ7_fill_53178 5 = .ok (.iload_n 2, 1) := by decide +kernel
theorem dJ7_fill_53178_6 : decode cJ7_fill_53178 6 = .ok (.iload_n 3, 1) := by decide +kernel
theorem dJ7_fill_53178_7 : decode cJ7_fill_53178 7 = .ok (.if_icmp .ge 13, 3) := by decide +kernel
theorem dJ7_fill_53178_10 : decode cJ7_fill_53178 10 = .ok (.aload_n 0, 1) := by decide +kernel
theorem dJ7_fill_53178_11 : decode cJ7_fill_53178 11 = .ok (.iload_n 2, 1) := by decide +kernel
theorem dJ7_fill_53178_12 : decode cJ7_fill_53178 12 = .ok (.iload_n 1, 1) := by decide +kernel
theorem dJ7_fill_53178_13 : decode cJ7_fill_53178 13 = .ok (.iastore, 1) := by decide +kernel
theorem dJ7_fill_53178_14 : decode cJ7_fill_53178 14 = .ok (.iinc 2 1, 3) := by decide +kernel
theorem dJ7_fill_53178_17 : decode cJ7_fill_53178 17 = .ok (.goto (-12), 3) := by decide +kernel
theorem dJ7_fill_53178_20 : decode cJ7_fill_53178 20 = .ok (.return_, 1) := by decide +kernel
theorem dL_part_0 : decode cL_part 0 = .ok (.iload_n 1, 1) := by decide +kernel
theorem dL_part_1 : decode cL_part 1 = .ok (.aload_n 0, 1) := by decide +kernel
theorem dL_part_2 : decode cL_part 2 = .ok (.arraylength, 1) := by decide +kernel
theorem dL_part_3 : decode cL_part 3 = .ok (.if_icmp .ge 9, 3) := by decide +kernel
theorem dL_part_6 : decode cL_part 6 = .ok (.aload_n 0, 1) := by decide +kernel
theorem dL_part_7 : decode cL_part 7 = .ok (.iload_n 1, 1) := by decide +kernel
theorem dL_part_8 : decode cL_part 8 = .ok (.iaload, 1) := by decide +kernel
theorem dL_part_9 : decode cL_part 9 = .ok (.goto 16, 3) := by decide +kernel
theorem dL_part_12 : decode cL_part 12 = .ok (.sipush 439, 3) := by decide +kernel
theorem dL_part_15 : decode cL_part 15 = .ok (.iload_n 1, 1) := by decide +kernel
theorem dL_part_16 : decode cL_part 16 = .ok (.imul, 1) := by decide +kernel
theorem dL_part_17 : decode cL_part 17 = .ok (.sipush 307, 3) := by decide +kernel
theorem dL_part_20 : decode cL_part 20 = .ok (.iload_n 1, 1) := by decide +kernel
theorem dL_part_21 : decode cL_part 21 = .ok (.imul, 1) := by decide +kernel
theorem dL_part_22 : decode cL_part 22 = .ok (.iload_n 1, 1) := by decide +kernel
theorem dL_part_23 : decode cL_part 23 = .ok (.imul, 1) := by decide +kernel
theorem dL_part_24 : decode cL_part 24 = .ok (.iadd, 1) := by decide +kernel
theorem dL_part_25 : decode cL_part 25 = .ok (.istore_n 3, 1) := by decide +kernel
theorem dL_part_26 : decode cL_part 26 = .ok (.iload_n 3, 1) := by decide +kernel
theorem dL_part_27 : decode cL_part 27 = .ok (.ldc 7, 2) := by decide +kernel
theorem dL_part_29 : decode cL_part 29 = .ok (.iand, 1) := by decide +kernel
theorem dL_part_30 : decode cL_part 30 = .ok (.iload_n 2, 1) := by decide +kernel
theorem dL_part_31 : decode cL_part 31 = .ok (.irem, 1) := by decide +kernel
theorem dL_part_32 : decode cL_part 32 = .ok (.ireturn, 1) := by decide +kernel
set_option maxRecDepth 20000 in
theorem ggL_sets_X5_setSeats : GoodIn wsL_sets wsX5_setSeats := goodIn_ca (goodIn_r _ [5, 6, 7, 8, 9, 4, 10, 11, 12, 13, 14, 15, 16, 17, 18, 19, 20, 21, 22, 23, 24, 25, 26, 27, 28, 29] (by decide +kernel) (by decide +kernel)) (goodIn_sub (fun _ h => List.mem_cons_of_mem _ (List.mem_append_right _ h)) (by decide +kernel))
set_option maxRecDepth 20000 in
theorem gL_sets_X5_setSeats : GoodIn wsL_sets (wsV RL 8 RX5 yX5_setSeats wsX5_setSeats) := goodIn_app (goodIn_of _ (by decide +kernel)) ggL_sets_X5_setSeats
theorem dL_sets_0 : decode cL_sets 0 = .ok (.aload_n 0, 1) := by decide +kernel
theorem dL_sets_1 : decode cL_sets 1 = .ok (.iload_n 1, 1) := by decide +kernel
theorem dL_sets_2 : decode cL_sets 2 = .ok (.iload_n 2, 1) := by decide +kernel
theorem dL_sets_3 : decode cL_sets 3 = .ok (.iload_n 3, 1) := by decide +kernel
theorem dL_sets_4 : decode cL_sets 4 = .ok (.invokevirtual 8, 3) := by decide +kernel
theorem dL_sets_7 : decode cL_sets 7 = .ok (.iconst 0, 1) := by decide +kernel
theorem dL_sets_8 : decode cL_sets 8 = .ok (.ireturn, 1) := by decide +kernel
set_option maxRecDepth 20000 in
theorem ggL_does_L_sets : GoodIn wsL_does wsL_sets := goodIn_ca (goodIn_r _ [7, 8, 9, 10, 11, 12, 13, 14, 15, 16, 17, 18, 19, 20, 21, 22, 239, 240, 241, 242, 243, 244, 245, 246, 247, 248, 249, 250, 251, 252] (by decide +kernel) (by decide +kernel)) (goodIn_sub (fun _ h => List.mem_cons_of_mem _ (List.mem_append_left _ (List.mem_append_left _ (List.mem_append_right _ h)))) (by decide +kernel))
set_option maxRecDepth 20000 in
theorem gL_does_L_sets : GoodIn wsL_does (va_wsS RL 14 yL_sets wsL_sets) := goodIn_app (goodIn_of _ (by decide +kernel)) ggL_does_L_sets
set_option maxRecDepth 20000 in
theorem ggL_does_X5_addProduct : GoodIn wsL_does wsX5_addProduct := goodIn_ca (goodIn_ca (goodIn_ca (goodIn_r _ [26, 27, 28, 13, 14, 29, 30, 31, 32, 33, 34, 35, 36, 37, 11, 38, 15, 16, 17, 39, 40, 41, 42, 43, 44, 45, 46, 47, 48, 49, 50, 51, 52, 53, 54, 55, 56, 57, 58, 59, 60, 61, 239, 240, 241, 242, 243, 244, 245, 246, 247, 248, 249, 250, 251, 252, 253, 254, 255, 256, 257, 258, 259] (by decide +kernel) (by decide +kernel)) (goodIn_sub (fun _ h => List.mem_cons_of_mem _ (List.mem_append_left _ (List.mem_append_right _ h))) (by decide +kernel))) (goodIn_sub (fun _ h => List.mem_cons_of_mem _ (List.mem_append_left _ (List.mem_append_left _ (List.mem_append_right _ h)))) (by decide +kernel))) (goodIn_sub (fun _ h => List.mem_cons_of_mem _ (List.mem_append_right _ h)) (by decide +kernel))
set_option maxRecDepth 20000 in
theorem gL_does_X5_addProduct : GoodIn wsL_does (wsV RL 20 RX5 yX5_addProduct wsX5_addProduct) := goodIn_app (goodIn_of _ (by decide +kernel)) ggL_does_X5_addProduct
set_option maxRecDepth 20000 in
theorem ggL_does_X5_setExpected : GoodIn wsL_does wsX5_setExpected := goodIn_ca (goodIn_ca (goodIn_r _ [65, 27, 28, 13, 14, 66, 67, 68, 11, 69, 43, 15, 16, 17, 253, 254, 255, 256, 257, 258, 259, 239, 240, 241, 242, 243, 244, 245, 246, 247, 248, 249, 250, 251, 252] (by decide +kernel) (by decide +kernel)) (goodIn_sub (fun _ h => List.mem_cons_of_mem _ (List.mem_append_left _ (List.mem_append_right _ h))) (by decide +kernel))) (goodIn_sub (fun _ h => List.mem_cons_of_mem _ (List.mem_append_left _ (List.mem_append_left _ (List.mem_append_right _ h)))) (by decide +kernel))
set_option maxRecDepth 20000 in
theorem gL_does_X5_setExpected : GoodIn wsL_does (wsV RL 24 RX5 yX5_setExpected wsX5_setExpected) := goodIn_app (goodIn_of _ (by decide +kernel)) ggL_does_X5_setExpected
set_option maxRecDepth 20000 in
theorem ggL_does_X5_setRate : GoodIn wsL_does wsX5_setRate := goodIn_ca (goodIn_r _ [73, 13, 14, 74, 15, 16, 11, 17, 239, 240, 241, 242, 243, 244, 245, 246, 247, 248, 249, 250, 251, 252] (by decide +kernel) (by decide +kernel)) (goodIn_sub (fun _ h => List.mem_cons_of_mem _ (List.mem_append_left _ (List.mem_append_left _ (List.mem_append_right _ h)))) (by decide +kernel))
set_option maxRecDepth 20000 in
theorem gL_does_X5_setRate : GoodIn wsL_does (wsV RL 28 RX5 yX5_setRate wsX5_setRate) := goodIn_app (goodIn_of _ (by decide +kernel)) ggL_does_X5_setRate
set_option maxRecDepth 20000 in
theorem ggL_does_X5_ask : GoodIn wsL_does wsX5_ask := goodIn_ca (goodIn_ca (goodIn_r _ [78, 27, 28, 29, 30, 79, 80, 81, 82, 66, 67, 68, 11, 69, 43, 83, 84, 85, 86, 87, 88, 89, 90, 91, 92, 93, 94, 95, 96, 97, 98, 99, 100, 101, 102, 103, 104, 105, 106, 74, 107, 108, 109, 110, 22, 111, 112, 113, 114, 115, 116, 117, 118, 119, 120, 121, 122, 123, 124, 125, 35, 126, 34, 127, 128, 54, 55, 129, 130, 131, 50, 56, 132, 133, 134, 135, 136, 137, 138, 139, 140, 61, 141, 142, 143, 144, 145, 146, 147, 148, 149, 150, 151, 152, 153, 154, 155, 156, 157, 158, 159, 160, 51, 52, 161, 162, 163, 164, 165, 166, 167, 168, 169, 170, 171, 172, 173, 174, 175, 15, 16, 17, 176, 177, 178, 179, 180, 181, 182, 183, 184, 185, 186, 187, 188, 189, 190, 191, 192, 193, 194, 195, 196, 47, 48, 197, 198, 199, 200, 201, 239, 240, 241, 242, 243, 244, 245, 246, 247, 248, 249, 250, 251, 252, 253, 254, 255, 256, 257, 258, 259, 260, 261, 262, 263, 264, 265, 266, 267, 268, 269, 270, 271, 272] (by decide +kernel) (by decide +kernel)) (goodIn_sub (fun _ h => List.mem_cons_of_mem _ (List.mem_append_left _ (List.mem_append_right _ h))) (by decide +kernel))) (goodIn_sub (fun _ h => List.mem_cons_of_mem _ (List.mem_append_right _ h)) (by decide +kernel))
set_option maxRecDepth 20000 in
theorem gL_does_X5_ask : GoodIn wsL_does (wsV RL 32 RX5 yX5_ask wsX5_ask) := goodIn_app (goodIn_of _ (by decide +kernel)) ggL_does_X5_ask
set_option maxRecDepth 20000 in
theorem ggL_does_X5_group : GoodIn wsL_does wsX5_group := goodIn_ca (goodIn_ca (goodIn_ca (goodIn_r _ [205, 27, 28, 13, 14, 29, 30, 79, 80, 81, 82, 36, 37, 11, 38, 15, 16, 17, 206, 207, 208, 209, 171, 172, 173, 174, 175, 162, 163, 164, 107, 108, 109, 110, 22, 87, 88, 89, 90, 91, 92, 93, 94, 95, 96, 97, 98, 99, 100, 101, 102, 111, 112, 113, 114, 115, 116, 117, 210, 211, 212, 213, 136, 137, 138, 139, 140, 61, 141, 142, 143, 144, 145, 146, 147, 148, 149, 150, 151, 152, 153, 154, 155, 156, 157, 158, 34, 159, 160, 51, 52, 161, 165, 166, 167, 168, 169, 170, 176, 177, 178, 179, 180, 181, 182, 183, 184, 185, 186, 187, 188, 189, 190, 191, 192, 193, 194, 195, 196, 47, 48, 197, 198, 199, 200, 201, 239, 240, 241, 242, 243, 244, 245, 246, 247, 248, 249, 250, 251, 252, 260, 261, 262, 263, 264, 265, 266, 267, 268, 269, 270, 271, 272, 253, 254, 255, 256, 257, 258, 259] (by decide +kernel) (by decide +kernel)) (goodIn_sub (fun _ h => List.mem_cons_of_mem _ (List.mem_append_left _ (List.mem_append_right _ h))) (by decide +kernel))) (goodIn_sub (fun _ h => List.mem_cons_of_mem _ (List.mem_append_left _ (List.mem_append_left _ (List.mem_append_right _ h)))) (by decide +kernel))) (goodIn_sub (fun _ h => List.mem_cons_of_mem _ (List.mem_append_right _ h)) (by decide +kernel))
set_option maxRecDepth 20000 in
theorem gL_does_X5_group : GoodIn wsL_does (wsV RL 35 RX5 yX5_group wsX5_group) := goodIn_app (goodIn_of _ (by decide +kernel)) ggL_does_X5_group
set_option maxRecDepth 20000 in
theorem ggL_does_X5_cancel : GoodIn wsL_does wsX5_cancel := goodIn_ca (goodIn_ca (goodIn_r _ [217, 27, 28, 29, 30, 91, 92, 93, 11, 94, 79, 95, 260, 261, 262, 263, 264, 239, 240, 241, 242, 243, 244, 245, 246, 247, 248, 249, 250, 251, 252] (by decide +kernel) (by decide +kernel)) (goodIn_sub (fun _ h => List.mem_cons_of_mem _ (List.mem_append_left _ (List.mem_append_right _ h))) (by decide +kernel))) (goodIn_sub (fun _ h => List.mem_cons_of_mem _ (List.mem_append_right _ h)) (by decide +kernel))
set_option maxRecDepth 20000 in
theorem gL_does_X5_cancel : GoodIn wsL_does (wsV RL 39 RX5 yX5_cancel wsX5_cancel) := goodIn_app (goodIn_of _ (by decide +kernel)) ggL_does_X5_cancel
set_option maxRecDepth 20000 in
theorem ggL_does_X5_endDay : GoodIn wsL_does wsX5_endDay := goodIn_ca (goodIn_r _ [221, 13, 14, 222, 79, 15, 16, 11, 17, 223, 224, 225, 226, 175, 162, 163, 164, 87, 88, 89, 90, 91, 92, 93, 94, 95, 96, 82, 97, 98, 99, 100, 101, 102, 107, 108, 109, 110, 22, 227, 228, 229, 230, 231, 232, 233, 234, 35, 43, 235, 34, 236, 237, 52, 238, 180, 181, 50, 53, 51, 239, 240, 241, 242, 243, 244, 245, 246, 247, 248, 249, 250, 251, 252, 260, 261, 262, 263, 264, 253, 254, 255, 256, 257, 258, 259] (by decide +kernel) (by decide +kernel)) (goodIn_sub (fun _ h => List.mem_cons_of_mem _ (List.mem_append_left _ (List.mem_append_left _ (List.mem_append_right _ h)))) (by decide +kernel))
set_option maxRecDepth 20000 in
theorem gL_does_X5_endDay : GoodIn wsL_does (wsV RL 42 RX5 yX5_endDay wsX5_endDay) := goodIn_app (goodIn_of _ (by decide +kernel)) ggL_does_X5_endDay
theorem dL_does_0 : decode cL_does 0 = .ok (.iload_n 1, 1) := by decide +kernel
theorem dL_does_1 : decode cL_does 1 = .ok (.ifCond .ne 14, 3) := by decide +kernel
theorem dL_does_4 : decode cL_does 4 = .ok (.aload_n 0, 1) := by decide +kernel
theorem dL_does_5 : decode cL_does 5 = .ok (.iload_n 2, 1) := by decide +kernel
theorem dL_does_6 : decode cL_does 6 = .ok (.iload_n 3, 1) := by decide +kernel
theorem dL_does_7 : decode cL_does 7 = .ok (.iload 4, 2) := by decide +kernel
theorem dL_does_9 : decode cL_does 9 = .ok (.invokestatic 14, 3) := by decide +kernel
theorem dL_does_12 : decode cL_does 12 = .ok (.goto 96, 3) := by decide +kernel
theorem dL_does_15 : decode cL_does 15 = .ok (.iload_n 1, 1) := by decide +kernel
theorem dL_does_16 : decode cL_does 16 = .ok (.iconst 1, 1) := by decide +kernel
theorem dL_does_17 : decode cL_does 17 = .ok (.if_icmp .ne 14, 3) := by decide +kernel
theorem dL_does_20 : decode cL_does 20 = .ok (.aload_n 0, 1) := by decide +kernel
theorem dL_does_21 : decode cL_does 21 = .ok (.iload_n 2, 1) := by decide +kernel
theorem dL_does_22 : decode cL_does 22 = .ok (.iload_n 3, 1) := by decide +kernel
theorem dL_does_23 : decode cL_does 23 = .ok (.iload 4, 2) := by decide +kernel
theorem dL_does_25 : decode cL_does 25 = .ok (.invokevirtual 20, 3) := by decide +kernel
theorem dL_does_28 : decode cL_does 28 = .ok (.goto 80, 3) := by decide +kernel
theorem dL_does_31 : decode cL_does 31 = .ok (.iload_n 1, 1) := by decide +kernel
theorem dL_does_32 : decode cL_does 32 = .ok (.iconst 2, 1) := by decide +kernel
theorem dL_does_33 : decode cL_does 33 = .ok (.if_icmp .ne 12, 3) := by decide +kernel
theorem dL_does_36 : decode cL_does 36 = .ok (.aload_n 0, 1) := by decide +kernel
theorem dL_does_37 : decode cL_does 37 = .ok (.iload_n 2, 1) := by decide +kernel
theorem dL_does_38 : decode cL_does 38 = .ok (.iload_n 3, 1) := by decide +kernel
theorem dL_does_39 : decode cL_does 39 = .ok (.invokevirtual 24, 3) := by decide +kernel
theorem dL_does_42 : decode cL_does 42 = .ok (.goto 66, 3) := by decide +kernel
theorem dL_does_45 : decode cL_does 45 = .ok (.iload_n 1, 1) := by decide +kernel
theorem dL_does_46 : decode cL_does 46 = .ok (.iconst 3, 1) := by decide +kernel
theorem dL_does_47 : decode cL_does 47 = .ok (.if_icmp .ne 11, 3) := by decide +kernel
theorem dL_does_50 : decode cL_does 50 = .ok (.aload_n 0, 1) := by decide +kernel
theorem dL_does_51 : decode cL_does 51 = .ok (.iload_n 2, 1) := by decide +kernel
theorem dL_does_52 : decode cL_does 52 = .ok (.invokevirtual 28, 3) := by decide +kernel
theorem dL_does_55 : decode cL_does 55 = .ok (.goto 53, 3) := by decide +kernel
theorem dL_does_58 : decode cL_does 58 = .ok (.iload_n 1, 1) := by decide +kernel
theorem dL_does_59 : decode cL_does 59 = .ok (.iconst 4, 1) := by decide +kernel
theorem dL_does_60 : decode cL_does 60 = .ok (.if_icmp .ne 11, 3) := by decide +kernel
theorem dL_does_63 : decode cL_does 63 = .ok (.aload_n 0, 1) := by decide +kernel
theorem dL_does_64 : decode cL_does 64 = .ok (.iload_n 2, 1) := by decide +kernel
theorem dL_does_65 : decode cL_does 65 = .ok (.invokevirtual 32, 3) := by decide +kernel
theorem dL_does_68 : decode cL_does 68 = .ok (.goto 40, 3) := by decide +kernel
theorem dL_does_71 : decode cL_does 71 = .ok (.iload_n 1, 1) := by decide +kernel
theorem dL_does_72 : decode cL_does 72 = .ok (.iconst 5, 1) := by decide +kernel
theorem dL_does_73 : decode cL_does 73 = .ok (.if_icmp .ne 16, 3) := by decide +kernel
theorem dL_does_76 : decode cL_does 76 = .ok (.aload_n 0, 1) := by decide +kernel
theorem dL_does_77 : decode cL_does 77 = .ok (.iload_n 2, 1) := by decide +kernel
theorem dL_does_78 : decode cL_does 78 = .ok (.iload_n 3, 1) := by decide +kernel
theorem dL_does_79 : decode cL_does 79 = .ok (.iload 4, 2) := by decide +kernel
theorem dL_does_81 : decode cL_does 81 = .ok (.iload 5, 2) := by decide +kernel
theorem dL_does_83 : decode cL_does 83 = .ok (.invokevirtual 35, 3) := by decide +kernel
theorem dL_does_86 : decode cL_does 86 = .ok (.goto 22, 3) := by decide +kernel
theorem dL_does_89 : decode cL_does 89 = .ok (.iload_n 1, 1) := by decide +kernel
