theorem dX5_bookingAt_13 : decode cX5_bookingAt 13 = .ok (.aload_n 0, 1) := by decide +kernel
theorem dX5_bookingAt_14 : decode cX5_bookingAt 14 = .ok (.getfield 24, 3) := by decide +kernel
theorem dX5_bookingAt_17 : decode cX5_bookingAt 17 = .ok (.arraylength, 1) := by decide +kernel
theorem dX5_bookingAt_18 : decode cX5_bookingAt 18 = .ok (.if_icmp .ge 12, 3) := by decide +kernel
theorem dX5_bookingAt_21 : decode cX5_bookingAt 21 = .ok (.aload_n 0, 1) := by decide +kernel
theorem dX5_bookingAt_22 : decode cX5_bookingAt 22 = .ok (.getfield 24, 3) := by decide +kernel
theorem dX5_bookingAt_25 : decode cX5_bookingAt 25 = .ok (.iload_n 1, 1) := by decide +kernel
theorem dX5_bookingAt_26 : decode cX5_bookingAt 26 = .ok (.aaload, 1) := by decide +kernel
theorem dX5_bookingAt_27 : decode cX5_bookingAt 27 = .ok (.goto 4, 3) := by decide +kernel
theorem dX5_bookingAt_30 : decode cX5_bookingAt 30 = .ok (.aconst_null, 1) := by decide +kernel
theorem dX5_bookingAt_31 : decode cX5_bookingAt 31 = .ok (.areturn, 1) := by decide +kernel
theorem dX5_enter_0 : decode cX5_enter 0 = .ok (.aload_n 0, 1) := by decide +kernel
theorem dX5_enter_1 : decode cX5_enter 1 = .ok (.getfield 46, 3) := by decide +kernel
theorem dX5_enter_4 : decode cX5_enter 4 = .ok (.istore_n 2, 1) := by decide +kernel
theorem dX5_enter_5 : decode cX5_enter 5 = .ok (.iload_n 2, 1) := by decide +kernel
theorem dX5_enter_6 : decode cX5_enter 6 = .ok (.ifCond .lt 29, 3) := by decide +kernel
theorem dX5_enter_9 : decode cX5_enter 9 = .ok (.iload_n 2, 1) := by decide +kernel
theorem dX5_enter_10 : decode cX5_enter 10 = .ok (.aload_n 0, 1) := by decide +kernel
theorem dX5_enter_11 : decode cX5_enter 11 = .ok (.getfield 24, 3) := by decide +kernel
theorem dX5_enter_14 : decode cX5_enter 14 = .ok (.arraylength, 1) := by decide +kernel
theorem dX5_enter_15 : decode cX5_enter 15 = .ok (.if_icmp .ge 20, 3) := by decide +kernel
theorem dX5_enter_18 : decode cX5_enter 18 = .ok (.aload_n 0, 1) := by decide +kernel
theorem dX5_enter_19 : decode cX5_enter 19 = .ok (.getfield 24, 3) := by decide +kernel
theorem dX5_enter_22 : decode cX5_enter 22 = .ok (.iload_n 2, 1) := by decide +kernel
theorem dX5_enter_23 : decode cX5_enter 23 = .ok (.aload_n 1, 1) := by decide +kernel
theorem dX5_enter_24 : decode cX5_enter 24 = .ok (.aastore, 1) := by decide +kernel
theorem dX5_enter_25 : decode cX5_enter 25 = .ok (.aload_n 0, 1) := by decide +kernel
theorem dX5_enter_26 : decode cX5_enter 26 = .ok (.dup, 1) := by decide +kernel
theorem dX5_enter_27 : decode cX5_enter 27 = .ok (.getfield 46, 3) := by decide +kernel
theorem dX5_enter_30 : decode cX5_enter 30 = .ok (.iconst 1, 1) := by decide +kernel
theorem dX5_enter_31 : decode cX5_enter 31 = .ok (.iadd, 1) := by decide +kernel
theorem dX5_enter_32 : decode cX5_enter 32 = .ok (.putfield 46, 3) := by decide +kernel
theorem dX5_enter_35 : decode cX5_enter 35 = .ok (.iload_n 2, 1) := by decide +kernel
theorem dX5_enter_36 : decode cX5_enter 36 = .ok (.ireturn, 1) := by decide +kernel
set_option maxRecDepth 20000 in
theorem ggX5_faresOfToday_X5_bookingAt : GoodIn wsX5_faresOfToday wsX5_bookingAt := goodIn_r _ [6, 1, 7, 8, 9, 10, 11, 12, 13, 14, 15, 16, 17, 18, 19, 20, 21] (by decide +kernel) (by decide +kernel)
set_option maxRecDepth 20000 in
theorem gX5_faresOfToday_X5_bookingAt : GoodIn wsX5_faresOfToday (wsV RX5 165 RX5 yX5_bookingAt wsX5_bookingAt) := goodIn_app (goodIn_of _ (by decide +kernel)) ggX5_faresOfToday_X5_bookingAt
theorem dX5_faresOfToday_0 : decode cX5_faresOfToday 0 = .ok (.iconst 0, 1) := by decide +kernel
theorem dX5_faresOfToday_1 : decode cX5_faresOfToday 1 = .ok (.istore_n 1, 1) := by decide +kernel
theorem dX5_faresOfToday_2 : decode cX5_faresOfToday 2 = .ok (.iconst 0, 1) := by decide +kernel
theorem dX5_faresOfToday_3 : decode cX5_faresOfToday 3 = .ok (.istore_n 2, 1) := by decide +kernel
theorem dX5_faresOfToday_4 : decode cX5_faresOfToday 4 = .ok (.iload_n 2, 1) := by decide +kernel
theorem dX5_faresOfToday_5 : decode cX5_faresOfToday 5 = .ok (.aload_n 0, 1) := by decide +kernel
theorem dX5_faresOfToday_6 : decode cX5_faresOfToday 6 = .ok (.getfield 46, 3) := by decide +kernel
theorem dX5_faresOfToday_9 : decode cX5_faresOfToday 9 = .ok (.if_icmp .ge 33, 3) := by decide +kernel
theorem dX5_faresOfToday_12 : decode cX5_faresOfToday 12 = .ok (.aload_n 0, 1) := by decide +kernel
theorem dX5_faresOfToday_13 : decode cX5_faresOfToday 13 = .ok (.iload_n 2, 1) := by decide +kernel
theorem dX5_faresOfToday_14 : decode cX5_faresOfToday 14 = .ok (.invokevirtual 165, 3) := by decide +kernel
theorem dX5_faresOfToday_17 : decode cX5_faresOfToday 17 = .ok (.astore_n 3, 1) := by decide +kernel
theorem dX5_faresOfToday_18 : decode cX5_faresOfToday 18 = .ok (.aload_n 3, 1) := by decide +kernel
theorem dX5_faresOfToday_19 : decode cX5_faresOfToday 19 = .ok (.ifnull 17, 3) := by decide +kernel
theorem dX5_faresOfToday_22 : decode cX5_faresOfToday 22 = .ok (.aload_n 3, 1) := by decide +kernel
theorem dX5_faresOfToday_23 : decode cX5_faresOfToday 23 = .ok (.getfield 171, 3) := by decide +kernel
theorem dX5_faresOfToday_26 : decode cX5_faresOfToday 26 = .ok (.ifCond .ne 10, 3) := by decide +kernel
theorem dX5_faresOfToday_29 : decode cX5_faresOfToday 29 = .ok (.iload_n 1, 1) := by decide +kernel
theorem dX5_faresOfToday_30 : decode cX5_faresOfToday 30 = .ok (.aload_n 3, 1) := by decide +kernel
theorem dX5_faresOfToday_31 : decode cX5_faresOfToday 31 = .ok (.getfield 245, 3) := by decide +kernel
theorem dX5_faresOfToday_34 : decode cX5_faresOfToday 34 = .ok (.iadd, 1) := by decide +kernel
theorem dX5_faresOfToday_35 : decode cX5_faresOfToday 35 = .ok (.istore_n 1, 1) := by decide +kernel
theorem dX5_faresOfToday_36 : decode cX5_faresOfToday 36 = .ok (.iinc 2 1, 3) := by decide +kernel
theorem dX5_faresOfToday_39 : decode cX5_faresOfToday 39 = .ok (.goto (-35), 3) := by decide +kernel
theorem dX5_faresOfToday_42 : decode cX5_faresOfToday 42 = .ok (.iload_n 1, 1) := by decide +kernel
theorem dX5_faresOfToday_43 : decode cX5_faresOfToday 43 = .ok (.ireturn, 1) := by decide +kernel
set_option maxRecDepth 20000 in
theorem ggX5_worthWithMore_X1_clear : GoodIn wsX5_worthWithMore wsX1_clear := goodIn_r _ [6, 7, 8, 9, 10, 11, 12, 100, 101, 102, 103, 104, 105, 106, 107] (by decide +kernel) (by decide +kernel)
set_option maxRecDepth 20000 in
theorem gX5_worthWithMore_X1_clear_n248 : GoodIn wsX5_worthWithMore (wsX1_clear) := ggX5_worthWithMore_X1_clear
set_option maxRecDepth 20000 in
theorem ggX5_worthWithMore_X1_add : GoodIn wsX5_worthWithMore wsX1_add := goodIn_r _ [15, 16, 17, 18, 4, 19, 7, 10, 12, 8, 11, 9, 20, 21, 22, 23, 24, 25, 26, 27, 28, 29, 30, 31, 32, 33, 34, 35, 108, 109, 110, 111, 112, 113, 114, 100, 101, 102, 103, 104, 105, 106, 107] (by decide +kernel) (by decide +kernel)
set_option maxRecDepth 20000 in
theorem gX5_worthWithMore_X1_add_n249 : GoodIn wsX5_worthWithMore (wsX1_add) := ggX5_worthWithMore_X1_add
set_option maxRecDepth 20000 in
theorem ggX5_worthWithMore_X5_leftOn : GoodIn wsX5_worthWithMore wsX5_leftOn := goodIn_r _ [40, 41, 27, 28, 29, 42, 43, 44, 39, 45, 46, 47, 48, 49, 50, 51, 52, 53, 54, 55, 56, 57, 58, 59, 60, 61, 62, 63, 64, 86, 87, 88, 89, 90, 91, 92, 93, 94, 95, 96, 97, 98, 99, 115, 116, 117, 118, 119] (by decide +kernel) (by decide +kernel)
set_option maxRecDepth 20000 in
theorem gX5_worthWithMore_X5_leftOn : GoodIn wsX5_worthWithMore (wsV RX5 205 RX5 yX5_leftOn wsX5_leftOn) := goodIn_app (goodIn_of _ (by decide +kernel)) ggX5_worthWithMore_X5_leftOn
set_option maxRecDepth 20000 in
theorem ggX5_worthWithMore_X5_within : GoodIn wsX5_worthWithMore wsX5_within := goodIn_r _ [67] (by decide +kernel) (by decide +kernel)
set_option maxRecDepth 20000 in
theorem gX5_worthWithMore_X5_within : GoodIn wsX5_worthWithMore (va_wsS RX5 68 yX5_within wsX5_within) := goodIn_app (goodIn_of _ (by decide +kernel)) ggX5_worthWithMore_X5_within
set_option maxRecDepth 20000 in
theorem ggX5_worthWithMore_X1_mostFor : GoodIn wsX5_worthWithMore wsX1_mostFor := goodIn_r _ [70, 12, 71, 72, 28, 73, 74, 27, 29, 75, 31, 76, 77, 34, 35, 78, 79, 80, 4, 81, 10, 7, 82, 83, 84, 85, 11, 8, 9, 100, 101, 102, 103, 104, 105, 106, 107] (by decide +kernel) (by decide +kernel)
set_option maxRecDepth 20000 in
theorem gX5_worthWithMore_X1_mostFor_n252 : GoodIn wsX5_worthWithMore (wsX1_mostFor) := ggX5_worthWithMore_X1_mostFor
theorem dX5_worthWithMore_0 : decode cX5_worthWithMore 0 = .ok (.aload_n 0, 1) := by decide +kernel
theorem dX5_worthWithMore_1 : decode cX5_worthWithMore 1 = .ok (.getfield 31, 3) := by decide +kernel
theorem dX5_worthWithMore_4 : decode cX5_worthWithMore 4 = .ok (.invokevirtual 248, 3) := by decide +kernel
theorem dX5_worthWithMore_7 : decode cX5_worthWithMore 7 = .ok (.aload_n 0, 1) := by decide +kernel
theorem dX5_worthWithMore_8 : decode cX5_worthWithMore 8 = .ok (.getfield 19, 3) := by decide +kernel
theorem dX5_worthWithMore_11 : decode cX5_worthWithMore 11 = .ok (.astore 4, 2) := by decide +kernel
theorem dX5_worthWithMore_13 : decode cX5_worthWithMore 13 = .ok (.aload 4, 2) := by decide +kernel
theorem dX5_worthWithMore_15 : decode cX5_worthWithMore 15 = .ok (.arraylength, 1) := by decide +kernel
theorem dX5_worthWithMore_16 : decode cX5_worthWithMore 16 = .ok (.istore 5, 2) := by decide +kernel
theorem dX5_worthWithMore_18 : decode cX5_worthWithMore 18 = .ok (.iconst 0, 1) := by decide +kernel
theorem dX5_worthWithMore_19 : decode cX5_worthWithMore 19 = .ok (.istore 6, 2) := by decide +kernel
theorem dX5_worthWithMore_21 : decode cX5_worthWithMore 21 = .ok (.iload 6, 2) := by decide +kernel
theorem dX5_worthWithMore_23 : decode cX5_worthWithMore 23 = .ok (.iload 5, 2) := by decide +kernel
theorem dX5_worthWithMore_25 : decode cX5_worthWithMore 25 = .ok (.if_icmp .ge 30, 3) := by decide +kernel
theorem dX5_worthWithMore_28 : decode cX5_worthWithMore 28 = .ok (.aload 4, 2) := by decide +kernel
theorem dX5_worthWithMore_30 : decode cX5_worthWithMore 30 = .ok (.iload 6, 2) := by decide +kernel
theorem dX5_worthWithMore_32 : decode cX5_worthWithMore 32 = .ok (.aaload, 1) := by decide +kernel
theorem dX5_worthWithMore_33 : decode cX5_worthWithMore 33 = .ok (.astore 7, 2) := by decide +kernel
theorem dX5_worthWithMore_35 : decode cX5_worthWithMore 35 = .ok (.aload 7, 2) := by decide +kernel
theorem dX5_worthWithMore_37 : decode cX5_worthWithMore 37 = .ok (.ifnull 12, 3) := by decide +kernel
theorem dX5_worthWithMore_40 : decode cX5_worthWithMore 40 = .ok (.aload_n 0, 1) := by decide +kernel
theorem dX5_worthWithMore_41 : decode cX5_worthWithMore 41 = .ok (.getfield 31, 3) := by decide +kernel
theorem dX5_worthWithMore_44 : decode cX5_worthWithMore 44 = .ok (.aload 7, 2) := by decide +kernel
theorem dX5_worthWithMore_46 : decode cX5_worthWithMore 46 = .ok (.invokevirtual 249, 3) := by decide +kernel
theorem dX5_worthWithMore_49 : decode cX5_worthWithMore 49 = .ok (.iinc 6 1, 3) := by decide +kernel
theorem dX5_worthWithMore_52 : decode cX5_worthWithMore 52 = .ok (.goto (-31), 3) := by decide +kernel
theorem dX5_worthWithMore_55 : decode cX5_worthWithMore 55 = .ok (.aload_n 0, 1) := by decide +kernel
theorem dX5_worthWithMore_56 : decode cX5_worthWithMore 56 = .ok (.iconst 0, 1) := by decide +kernel
theorem dX5_worthWithMore_57 : decode cX5_worthWithMore 57 = .ok (.invokevirtual 205, 3) := by decide +kernel
theorem dX5_worthWithMore_60 : decode cX5_worthWithMore 60 = .ok (.iconst 0, 1) := by decide +kernel
theorem dX5_worthWithMore_61 : decode cX5_worthWithMore 61 = .ok (.iload_n 1, 1) := by decide +kernel
theorem dX5_worthWithMore_62 : decode cX5_worthWithMore 62 = .ok (.iload_n 2, 1) := by decide +kernel
theorem dX5_worthWithMore_63 : decode cX5_worthWithMore 63 = .ok (.invokestatic 68, 3) := by decide +kernel
theorem dX5_worthWithMore_66 : decode cX5_worthWithMore 66 = .ok (.ifCond .eq 7, 3) := by decide +kernel
theorem dX5_worthWithMore_69 : decode cX5_worthWithMore 69 = .ok (.iload_n 3, 1) := by decide +kernel
theorem dX5_worthWithMore_70 : decode cX5_worthWithMore 70 = .ok (.goto 4, 3) := by decide +kernel
theorem dX5_worthWithMore_73 : decode cX5_worthWithMore 73 = .ok (.iconst 0, 1) := by decide +kernel
theorem dX5_worthWithMore_74 : decode cX5_worthWithMore 74 = .ok (.iadd, 1) := by decide +kernel
theorem dX5_worthWithMore_75 : decode cX5_worthWithMore 75 = .ok (.istore 4, 2) := by decide +kernel
theorem dX5_worthWithMore_77 : decode cX5_worthWithMore 77 = .ok (.aload_n 0, 1) := by decide +kernel
theorem dX5_worthWithMore_78 : decode cX5_worthWithMore 78 = .ok (.iconst 1, 1) := by decide +kernel
theorem dX5_worthWithMore_79 : decode cX5_worthWithMore 79 = .ok (.invokevirtual 205, 3) := by decide +kernel
theorem dX5_worthWithMore_82 : decode cX5_worthWithMore 82 = .ok (.iconst 1, 1) := by decide +kernel
theorem dX5_worthWithMore_83 : decode cX5_worthWithMore 83 = .ok (.iload_n 1, 1) := by decide +kernel
theorem dX5_worthWithMore_84 : decode cX5_worthWithMore 84 = .ok (.iload_n 2, 1) := by decide +kernel
theorem dX5_worthWithMore_85 : decode cX5_worthWithMore 85 = .ok (.invokestatic 68, 3) := by decide +kernel
theorem dX5_worthWithMore_88 : decode cX5_worthWithMore 88 = .ok (.ifCond .eq 7, 3) := by decide +kernel
theorem dX5_worthWithMore_91 : decode cX5_worthWithMore 91 = .ok (.iload_n 3, 1) := by decide +kernel
theorem dX5_worthWithMore_92 : decode cX5_worthWithMore 92 = .ok (.goto 4, 3) := by decide +kernel
theorem dX5_worthWithMore_95 : decode cX5_worthWithMore 95 = .ok (.iconst 0, 1) := by decide +kernel
theorem dX5_worthWithMore_96 : decode cX5_worthWithMore 96 = .ok (.iadd, 1) := by decide +kernel
theorem dX5_worthWithMore_97 : decode cX5_worthWithMore 97 = .ok (.istore 5, 2) := by decide +kernel
theorem dX5_worthWithMore_99 : decode cX5_worthWithMore 99 = .ok (.aload_n 0, 1) := by decide +kernel
theorem dX5_worthWithMore_100 : decode cX5_worthWithMore 100 = .ok (.iconst 2, 1) := by decide +kernel
theorem dX5_worthWithMore_101 : decode cX5_worthWithMore 101 = .ok (.invokevirtual 205, 3) := by decide +kernel
theorem dX5_worthWithMore_104 : decode cX5_worthWithMore 104 = .ok (.iconst 2, 1) := by decide +kernel
theorem dX5_worthWithMore_105 : decode cX5_worthWithMore 105 = .ok (.iload_n 1, 1) := by decide +kernel
theorem dX5_worthWithMore_106 : decode cX5_worthWithMore 106 = .ok (.iload_n 2, 1) := by decide +kernel
theorem dX5_worthWithMore_107 : decode cX5_worthWithMore 107 = .ok (.invokestatic 68, 3) := by decide +kernel
theorem dX5_worthWithMore_110 : decode cX5_worthWithMore 110 = .ok (.ifCond .eq 7, 3) := by decide +kernel
theorem dX5_worthWithMore_113 : decode cX5_worthWithMore 113 = .ok (.iload_n 3, 1) := by decide +kernel
theorem dX5_worthWithMore_114 : decode cX5_worthWithMore 114 = .ok (.goto 4, 3) := by decide +kernel
theorem dX5_worthWithMore_117 : decode cX5_worthWithMore 117 = .ok (.iconst 0, 1) := by decide +kernel
theorem dX5_worthWithMore_118 : decode cX5_worthWithMore 118 = .ok (.iadd, 1) := by decide +kernel
theorem dX5_worthWithMore_119 : decode cX5_worthWithMore 119 = .ok (.istore 6, 2) := by decide +kernel
theorem dX5_worthWithMore_121 : decode cX5_worthWithMore 121 = .ok (.aload_n 0, 1) := by decide +kernel
theorem dX5_worthWithMore_122 : decode cX5_worthWithMore 122 = .ok (.getfield 31, 3) := by decide +kernel
theorem dX5_worthWithMore_125 : decode cX5_worthWithMore 125 = .ok (.iload 4, 2) := by decide +kernel
theorem dX5_worthWithMore_127 : decode cX5_worthWithMore 127 = .ok (.iload 5, 2) := by decide +kernel
theorem dX5_worthWithMore_129 : decode cX5_worthWithMore 129 = .ok (.iload 6, 2) := by decide +kernel
theorem dX5_worthWithMore_131 : decode cX5_worthWithMore 131 = .ok (.invokevirtual 252, 3) := by decide +kernel
theorem dX5_worthWithMore_134 : decode cX5_worthWithMore 134 = .ok (.ireturn, 1) := by decide +kernel
set_option maxRecDepth 20000 in
theorem ggX5_bidsOver_X5_worthWithMore : GoodIn wsX5_bidsOver wsX5_worthWithMore := goodIn_r _ [5, 6, 7, 8, 9, 10, 11, 12, 13, 14, 15, 16, 17, 18, 19, 20, 21, 22, 23, 24, 25, 26, 27, 28, 29, 30, 31, 32, 33, 34, 35, 36, 37, 38, 39, 40, 41, 42, 43, 4, 44, 45, 46, 47, 48, 49, 50, 51, 52, 53, 54, 55, 56, 57, 58, 59, 60, 61, 62, 63, 64, 65, 66, 67, 68, 69, 70, 71, 72, 73, 74, 75, 76, 77, 78, 79, 80, 81, 82, 83, 84, 85, 86, 87, 88, 89, 90, 91, 92, 93, 94, 95, 96, 97, 98, 99, 100, 101, 102, 103, 104, 105, 106, 107, 108, 109, 110, 111, 112, 113, 114, 115, 116, 117, 118, 119, 120, 121, 122, 123] (by decide +kernel) (by decide +kernel)
set_option maxRecDepth 20000 in
theorem gX5_bidsOver_X5_worthWithMore : GoodIn wsX5_bidsOver (wsV RX5 202 RX5 yX5_worthWithMore wsX5_worthWithMore) := goodIn_app (goodIn_of _ (by decide +kernel)) ggX5_bidsOver_X5_worthWithMore
theorem dX5_bidsOver_0 : decode cX5_bidsOver 0 = .ok (.aload_n 0, 1) := by decide +kernel
theorem dX5_bidsOver_1 : decode cX5_bidsOver 1 = .ok (.iconst 0, 1) := by decide +kernel
theorem dX5_bidsOver_2 : decode cX5_bidsOver 2 = .ok (.iconst 0, 1) := by decide +kernel
theorem dX5_bidsOver_3 : decode cX5_bidsOver 3 = .ok (.iconst 0, 1) := by decide +kernel
theorem dX5_bidsOver_4 : decode cX5_bidsOver 4 = .ok (.invokevirtual 202, 3) := by decide +kernel
theorem dX5_bidsOver_7 : decode cX5_bidsOver 7 = .ok (.istore_n 3, 1) := by decide +kernel
theorem dX5_bidsOver_8 : decode cX5_bidsOver 8 = .ok (.iconst 0, 1) := by decide +kernel
theorem dX5_bidsOver_9 : decode cX5_bidsOver 9 = .ok (.istore 4, 2) := by decide +kernel
theorem dX5_bidsOver_11 : decode cX5_bidsOver 11 = .ok (.iload_n 1, 1) := by decide +kernel
theorem dX5_bidsOver_12 : decode cX5_bidsOver 12 = .ok (.istore 5, 2) := by decide +kernel
theorem dX5_bidsOver_14 : decode cX5_bidsOver 14 = .ok (.iload 5, 2) := by decide +kernel
theorem dX5_bidsOver_16 : decode cX5_bidsOver 16 = .ok (.iload_n 2, 1) := by decide +kernel
theorem dX5_bidsOver_17 : decode cX5_bidsOver 17 = .ok (.if_icmp .gt 25, 3) := by decide +kernel
theorem dX5_bidsOver_20 : decode cX5_bidsOver 20 = .ok (.iload 4, 2) := by decide +kernel
theorem dX5_bidsOver_22 : decode cX5_bidsOver 22 = .ok (.aload_n 0, 1) := by decide +kernel
theorem dX5_bidsOver_23 : decode cX5_bidsOver 23 = .ok (.iload 5, 2) := by decide +kernel
theorem dX5_bidsOver_25 : decode cX5_bidsOver 25 = .ok (.iload 5, 2) := by decide +kernel
theorem dX5_bidsOver_27 : decode cX5_bidsOver 27 = .ok (.iconst 1, 1) := by decide +kernel
theorem dX5_bidsOver_28 : decode cX5_bidsOver 28 = .ok (.invokevirtual 202, 3) := by decide +kernel
theorem dX5_bidsOver_31 : decode cX5_bidsOver 31 = .ok (.iload_n 3, 1) := by decide +kernel
theorem dX5_bidsOver_32 : decode cX5_bidsOver 32 = .ok (.isub, 1) := by decide +kernel
theorem dX5_bidsOver_33 : decode cX5_bidsOver 33 = .ok (.iadd, 1) := by decide +kernel
theorem dX5_bidsOver_34 : decode cX5_bidsOver 34 = .ok (.istore 4, 2) := by decide +kernel
theorem dX5_bidsOver_36 : decode cX5_bidsOver 36 = .ok (.iinc 5 1, 3) := by decide +kernel
theorem dX5_bidsOver_39 : decode cX5_bidsOver 39 = .ok (.goto (-25), 3) := by decide +kernel
theorem dX5_bidsOver_42 : decode cX5_bidsOver 42 = .ok (.iload 4, 2) := by decide +kernel
theorem dX5_bidsOver_44 : decode cX5_bidsOver 44 = .ok (.ireturn, 1) := by decide +kernel
set_option maxRecDepth 20000 in
theorem ggX5_displacement_X5_worthWithMore : GoodIn wsX5_displacement wsX5_worthWithMore := goodIn_r _ [5, 6, 7, 8, 9, 10, 11, 12, 13, 14, 15, 16, 17, 18, 19, 20, 21, 22, 23, 24, 25, 26, 27, 28, 29, 30, 31, 32, 33, 34, 35, 36, 37, 38, 39, 40, 41, 42, 43, 4, 44, 45, 46, 47, 48, 49, 50, 51, 52, 53, 54, 55, 56, 57, 58, 59, 60, 61, 62, 63, 64, 65, 66, 67, 68, 69, 70, 71, 72, 73, 74, 75, 76, 77, 78, 79, 80, 81, 82, 83, 84, 85, 86, 87, 88, 89, 90, 91, 92, 93, 94, 95, 96, 97, 98, 99, 100, 101, 102, 103, 104, 105, 106, 107, 108, 109, 110, 111, 112, 113, 114, 115, 116, 117, 118, 119, 120, 121, 122, 123] (by decide +kernel) (by decide +kernel)
set_option maxRecDepth 20000 in
theorem gX5_displacement_X5_worthWithMore : GoodIn wsX5_displacement (wsV RX5 202 RX5 yX5_worthWithMore wsX5_worthWithMore) := goodIn_app (goodIn_of _ (by decide +kernel)) ggX5_displacement_X5_worthWithMore
theorem dX5_displacement_0 : decode cX5_displacement 0 = .ok (.aload_n 0, 1) := by decide +kernel
theorem dX5_displacement_1 : decode cX5_displacement 1 = .ok (.iconst 0, 1) := by decide +kernel
theorem dX5_displacement_2 : decode cX5_displacement 2 = .ok (.iconst 0, 1) := by decide +kernel
theorem dX5_displacement_3 : decode cX5_displacement 3 = .ok (.iconst 0, 1) := by decide +kernel
theorem dX5_displacement_4 : decode cX5_displacement 4 = .ok (.invokevirtual 202, 3) := by decide +kernel
theorem dX5_displacement_7 : decode cX5_displacement 7 = .ok (.aload_n 0, 1) := by decide +kernel
theorem dX5_displacement_8 : decode cX5_displacement 8 = .ok (.iload_n 1, 1) := by decide +kernel
theorem dX5_displacement_9 : decode cX5_displacement 9 = .ok (.iload_n 2, 1) := by decide +kernel
theorem dX5_displacement_10 : decode cX5_displacement 10 = .ok (.iload_n 3, 1) := by decide +kernel
theorem dX5_displacement_11 : decode cX5_displacement 11 = .ok (.ineg, 1) := by decide +kernel
theorem dX5_displacement_12 : decode cX5_displacement 12 = .ok (.invokevirtual 202, 3) := by decide +kernel
theorem dX5_displacement_15 : decode cX5_displacement 15 = .ok (.isub, 1) := by decide +kernel
theorem dX5_displacement_16 : decode cX5_displacement 16 = .ok (.ireturn, 1) := by decide +kernel
theorem dJ9_max_7cf53_0 : decode cJ9_max_7cf53 0 = .ok (.iload_n 0, 1) := by decide +kernel
theorem dJ9_max_7cf53_1 : decode cJ9_max_7cf53 1 = .ok (.iload_n 1, 1) := by decide +kernel
theorem dJ9_max_7cf53_2 : decode cJ9_max_7cf53 2 = .ok (.if_icmp .lt 7, 3) := by decide +kernel
theorem dJ9_max_7cf53_5 : decode cJ9_max_7cf53 5 = .ok (.iload_n 0, 1) := by decide +kernel
theorem dJ9_max_7cf53_6 : decode cJ9_max_7cf53 6 = .ok (.goto 4, 3) := by decide +kernel
theorem dJ9_max_7cf53_9 : decode cJ9_max_7cf53 9 = .ok (.iload_n 1, 1) := by decide +kernel
theorem dJ9_max_7cf53_10 : decode cJ9_max_7cf53 10 = .ok (.ireturn, 1) := by decide +kernel
theorem dJ9_min_7cf53_0 : decode cJ9_min_7cf53 0 = .ok (.iload_n 0, 1) := by decide +kernel
theorem dJ9_min_7cf53_1 : decode cJ9_min_7cf53 1 = .ok (.iload_n 1, 1) := by decide +kernel
theorem dJ9_min_7cf53_2 : decode cJ9_min_7cf53 2 = .ok (.if_icmp .gt 7, 3) := by decide +kernel
theorem dJ9_min_7cf53_5 : decode cJ9_min_7cf53 5 = .ok (.iload_n 0, 1) := by decide +kernel
theorem dJ9_min_7cf53_6 : decode cJ9_min_7cf53 6 = .ok (.goto 4, 3) := by decide +kernel
theorem dJ9_min_7cf53_9 : decode cJ9_min_7cf53 9 = .ok (.iload_n 1, 1) := by decide +kernel
theorem dJ9_min_7cf53_10 : decode cJ9_min_7cf53 10 = .ok (.ireturn, 1) := by decide +kernel
theorem dJ7_fill_53178_0 : decode cJ7_fill_53178 0 = .ok (.iconst 0, 1) := by decide +kernel
theorem dJ7_fill_53178_1 : decode cJ7_fill_53178 1 = .ok (.istore_n 2, 1) := by decide +kernel
theorem dJ7_fill_53178_2 : decode cJ7_fill_53178 2 = .ok (.aload_n 0, 1) := by decide +kernel
theorem dJ7_fill_53178_3 : decode cJ7_fill_53178 3 = .ok (.arraylength, 1) := by decide +kernel
theorem dJ7_fill_53178_4 : decode cJ7_fill_53178 4 = .ok (.istore_n 3, 1) := by decide +kernel
theorem dJ7_fill_53178_5 : decode cJ7_fill_53178 5 = .ok (.iload_n 2, 1) := by decide +kernel
theorem dJ7_fill_53178_6 : decode cJ7_fill_53178 6 = .ok (.iload_n 3, 1) := by decide +kernel
theorem dJ7_fill_53178_7 : decode cJ7_fill_53178 7 = .ok (.if_icmp .ge 13, 3) := by decide +kernel
theorem dJ7_fill_53178_10 : decode cJ7_fill_53178 10 = .ok (.aload_n 0, 1) := by decide +kernel
theorem dJ7_fill_53178_11 : decode cJ7_fill_53178 11 = .ok (.iload_n 2, 1) := by decide +kernel
theorem dJ7_fill_53178_12 : decode cJ7_fill_53178 12 = .ok (.iload_n 1, 1) := by decide +kernel
theorem dJ7_fill_53178_13 : decode cJ7_fill_53178 13 = .ok (.iastore, 1) := by decide +kernel
theorem dJ7_fill_53178_14 : decode cJ7_fill_53178 14 = .ok (.iinc 2 1, 3) := by decide +kernel
theorem dJ7_fill_53178_17 : decode cJ7_fill_53178 17 = .ok (.goto (-12), 3) := by decide +kernel
theorem dJ7_fill_53178_20 : decode cJ7_fill_53178 20 = .ok (.return_, 1) := by decide +kernel
theorem dL_part_0 : decode cL_part 0 = .ok (.iload_n 1, 1) := by decide +kernel
theorem dL_part_1 : decode cL_part 1 = .ok (.aload_n 0, 1) := by decide +kernel
theorem dL_part_2 : decode cL_part 2 = .ok (.arraylength, 1) := by decide +kernel
theorem dL_part_3 : decode cL_part 3 = .ok (.if_icmp .ge 9, 3) := by decide +kernel
theorem dL_part_6 : decode cL_part 6 = .ok (.aload_n 0, 1) := by decide +kernel
theorem dL_part_7 : decode cL_part 7 = .ok (.iload_n 1, 1) := by decide +kernel
theorem dL_part_8 : decode cL_part 8 = .ok (.iaload, 1) := by decide +kernel
theorem dL_part_9 : decode cL_part 9 = .ok (.goto 16, 3) := by decide +kernel
theorem dL_part_12 : decode cL_part 12 = .ok (.sipush 439, 3) := by decide +kernel
theorem dL_part_15 : decode cL_part 15 = .ok (.iload_n 1, 1) := by decide +kernel
theorem dL_part_16 : decode cL_part 16 = .ok (.imul, 1) := by decide +kernel
theorem dL_part_17 : decode cL_part 17 = .ok (.sipush 307, 3) := by decide +kernel
theorem dL_part_20 : decode cL_part 20 = .ok (.iload_n 1, 1) := by decide +kernel
theorem dL_part_21 : decode cL_part 21 = .ok (.imul, 1) := by decide +kernel
theorem dL_part_22 : decode cL_part 22 = .ok (.iload_n 1, 1) := by decide +kernel
theorem dL_part_23 : decode cL_part 23 = .ok (.imul, 1) := by decide +kernel
theorem dL_part_24 : decode cL_part 24 = .ok (.iadd, 1) := by decide +kernel
theorem dL_part_25 : decode cL_part 25 = .ok (.istore_n 3, 1) := by decide +kernel
theorem dL_part_26 : decode cL_part 26 = .ok (.iload_n 3, 1) := by decide +kernel
theorem dL_part_27 : decode cL_part 27 = .ok (.ldc 7, 2) := by decide +kernel
theorem dL_part_29 : decode cL_part 29 = .ok (.iand, 1) := by decide +kernel
theorem dL_part_30 : decode cL_part 30 = .ok (.iload_n 2, 1) := by decide +kernel
theorem dL_part_31 : decode cL_part 31 = .ok (.irem, 1) := by decide +kernel
theorem dL_part_32 : decode cL_part 32 = .ok (.ireturn, 1) := by decide +kernel
set_option maxRecDepth 20000 in
theorem ggL_sets_X5_setSeats : GoodIn wsL_sets wsX5_setSeats := goodIn_ca (goodIn_r _ [5, 6, 7, 8, 9, 4, 10, 11, 12, 13, 14, 15, 16, 17, 18, 19, 20, 21, 22, 23, 24, 25, 26, 27, 28, 29] (by decide +kernel) (by decide +kernel)) (goodIn_sub (fun _ h => List.mem_cons_of_mem _ (List.mem_append_right _ h)) (by decide +kernel))
set_option maxRecDepth 20000 in
theorem gL_sets_X5_setSeats : GoodIn wsL_sets (wsV RL 8 RX5 yX5_setSeats wsX5_setSeats) := goodIn_app (goodIn_of _ (by decide +kernel)) ggL_sets_X5_setSeats
theorem dL_sets_0 : decode cL_sets 0 = .ok (.aload_n 0, 1) := by decide +kernel
theorem dL_sets_1 : decode cL_sets 1 = .ok (.iload_n 1, 1) := by decide +kernel
theorem dL_sets_2 : decode cL_sets 2 = .ok (.iload_n 2, 1) := by decide +kernel
theorem dL_sets_3 : decode cL_sets 3 = .ok (.iload_n 3, 1) := by decide +kernel
theorem dL_sets_4 : decode cL_sets 4 = .ok (.invokevirtual 8, 3) := by decide +kernel
theorem dL_sets_7 : decode cL_sets 7 = .ok (.iconst 0, 1) := by decide +kernel
theorem dL_sets_8 : decode cL_sets 8 = .ok (.ireturn, 1) := by decide +kernel
set_option maxRecDepth 20000 in
theorem ggL_does_L_sets : GoodIn wsL_does wsL_sets := goodIn_ca (goodIn_r _ [7, 8, 9, 10, 11, 12, 13, 14, 15, 16, 17, 18, 19, 20, 21, 22, 239, 240, 241, 242, 243, 244, 245, 246, 247, 248, 249, 250, 251, 252] (by decide +kernel) (by decide +kernel)) (goodIn_sub (fun _ h => List.mem_cons_of_mem _ (List.mem_append_left _ (List.mem_append_left _ (List.mem_append_right _ h)))) (by decide +kernel))
set_option maxRecDepth 20000 in
theorem gL_does_L_sets : GoodIn wsL_does (va_wsS RL 14 yL_sets wsL_sets) := goodIn_app (goodIn_of _ (by decide +kernel)) ggL_does_L_sets
set_option maxRecDepth 20000 in
theorem ggL_does_X5_addProduct : GoodIn wsL_does wsX5_addProduct := goodIn_ca (goodIn_ca (goodIn_ca (goodIn_r _ [26, 27, 28, 13, 14, 29, 30, 31, 32, 33, 34, 35, 36, 37, 11, 38, 15, 16, 17, 39, 40, 41, 42, 43, 44, 45, 46, 47, 48, 49, 50, 51, 52, 53, 54, 55, 56, 57, 58, 59, 60, 61, 239, 240, 241, 242, 243, 244, 245, 246, 247, 248, 249, 250, 251, 252, 253, 254, 255, 256, 257, 258, 259] (by decide +kernel) (by decide +kernel)) (goodIn_sub (fun _ h => List.mem_cons_of_mem _ (List.mem_append_left _ (List.mem_append_right _ h))) (by decide +kernel))) (goodIn_sub (fun _ h => List.mem_cons_of_mem _ (List.mem_append_left _ (List.mem_append_left _ (List.mem_append_right _ h)))) (by decide +kernel))) (goodIn_sub (fun _ h => List.mem_cons_of_mem _ (List.mem_append_right _ h)) (by decide +kernel))
set_option maxRecDepth 20000 in
theorem gL_does_X5_addProduct : GoodIn wsL_does (wsV RL 20 RX5 yX5_addProduct wsX5_addProduct) := goodIn_app (goodIn_of _ (by decide +kernel)) ggL_does_X5_addProduct
set_option maxRecDepth 20000 in
theorem ggL_does_X5_setExpected : GoodIn wsL_does wsX5_setExpected := goodIn_ca (goodIn_ca (goodIn_r _ [65, 27, 28, 13, 14, 66, 67, 68, 11, 69, 43, 15, 16, 17, 253, 254, 255, 256, 257, 258, 259, 239, 240, 241, 242, 243, 244, 245, 246, 247, 248, 249, 250, 251, 252] (by decide +kernel) (by decide +kernel)) (goodIn_sub (fun _ h => List.mem_cons_of_mem _ (List.mem_append_left _ (List.mem_append_right _ h))) (by decide +kernel))) (goodIn_sub (fun _ h => List.mem_cons_of_mem _ (List.mem_append_left _ (List.mem_append_left _ (List.mem_append_right _ h)))) (by decide +kernel))
set_option maxRecDepth 20000 in
theorem gL_does_X5_setExpected : GoodIn wsL_does (wsV RL 24 RX5 yX5_setExpected wsX5_setExpected) := goodIn_app (goodIn_of _ (by decide +kernel)) ggL_does_X5_setExpected
set_option maxRecDepth 20000 in
theorem ggL_does_X5_setRate : GoodIn wsL_does wsX5_setRate := goodIn_ca (goodIn_r _ [73, 13, 14, 74, 15, 16, 11, 17, 239, 240, 241, 242, 243, 244, 245, 246, 247, 248, 249, 250, 251, 252] (by decide +kernel) (by decide +kernel)) (goodIn_sub (fun _ h => List.mem_cons_of_mem _ (List.mem_append_left _ (List.mem_append_left _ (List.mem_append_right _ h)))) (by decide +kernel))
set_option maxRecDepth 20000 in
theorem gL_does_X5_setRate : GoodIn wsL_does (wsV RL 28 RX5 yX5_setRate wsX5_setRate) := goodIn_app (goodIn_of _ (by decide +kernel)) ggL_does_X5_setRate
set_option maxRecDepth 20000 in
theorem ggL_does_X5_ask : GoodIn wsL_does wsX5_ask := goodIn_ca (goodIn_ca (goodIn_r _ [78, 27, 28, 29, 30, 79, 80, 81, 82, 66, 67, 68, 11, 69, 43, 83, 84, 85, 86, 87, 88, 89, 90, 91, 92, 93, 94, 95, 96, 97, 98, 99, 100, 101, 102, 103, 104, 105, 106, 74, 107, 108, 109, 110, 22, 111, 112, 113, 114, 115, 116, 117, 118, 119, 120, 121, 122, 123, 124, 125, 35, 126, 34, 127, 128, 54, 55, 129, 130, 131, 50, 56, 132, 133, 134, 135, 136, 137, 138, 139, 140, 61, 141, 142, 143, 144, 145, 146, 147, 148, 149, 150, 151, 152, 153, 154, 155, 156, 157, 158, 159, 160, 51, 52, 161, 162, 163, 164, 165, 166, 167, 168, 169, 170, 171, 172, 173, 174, 175, 15, 16, 17, 176, 177, 178, 179, 180, 181, 182, 183, 184, 185, 186, 187, 188, 189, 190, 191, 192, 193, 194, 195, 196, 47, 48, 197, 198, 199, 200, 201, 239, 240, 241, 242, 243, 244, 245, 246, 247, 248, 249, 250, 251, 252, 253, 254, 255, 256, 257, 258, 259, 260, 261, 262, 263, 264, 265, 266, 267, 268, 269, 270, 271, 272] (by decide +kernel) (by decide +kernel)) (goodIn_sub (fun _ h => List.mem_cons_of_mem _ (List.mem_append_left _ (List.mem_append_right _ h))) (by decide +kernel))) (goodIn_sub (fun _ h => List.mem_cons_of_mem _ (List.mem_append_right _ h)) (by decide +kernel))
set_option maxRecDepth 20000 in
theorem gL_does_X5_ask : GoodIn wsL_does (wsV RL 32 RX5 yX5_ask wsX5_ask) := goodIn_app (goodIn_of _ (by decide +kernel)) ggL_does_X5_ask
set_option maxRecDepth 20000 in
theorem ggL_does_X5_group : GoodIn wsL_does wsX5_group := goodIn_ca (goodIn_ca (goodIn_ca (goodIn_r _ [205, 27, 28, 13, 14, 29, 30, 79, 80, 81, 82, 36, 37, 11, 38, 15, 16, 17, 206, 207, 208, 209, 171, 172, 173, 174, 175, 162, 163, 164, 107, 108, 109, 110, 22, 87, 88, 89, 90, 91, 92, 93, 94, 95, 96, 97, 98, 99, 100, 101, 102, 111, 112, 113, 114, 115, 116, 117, 210, 211, 212, 213, 136, 137, 138, 139, 140, 61, 141, 142, 143, 144, 145, 146, 147, 148, 149, 150, 151, 152, 153, 154, 155, 156, 157, 158, 34, 159, 160, 51, 52, 161, 165, 166, 167, 168, 169, 170, 176, 177, 178, 179, 180, 181, 182, 183, 184, 185, 186, 187, 188, 189, 190, 191, 192, 193, 194, 195, 196, 47, 48, 197, 198, 199, 200, 201, 239, 240, 241, 242, 243, 244, 245, 246, 247, 248, 249, 250, 251, 252, 260, 261, 262, 263, 264, 265, 266, 267, 268, 269, 270, 271, 272, 253, 254, 255, 256, 257, 258, 259] (by decide +kernel) (by decide +kernel)) (goodIn_sub (fun _ h => List.mem_cons_of_mem _ (List.mem_append_left _ (List.mem_append_right _ h))) (by decide +kernel))) (goodIn_sub (fun _ h => List.mem_cons_of_mem _ (List.mem_append_left _ (List.mem_append_left _ (List.mem_append_right _ h)))) (by decide +kernel))) (goodIn_sub (fun _ h => List.mem_cons_of_mem _ (List.mem_append_right _ h)) (by decide +kernel))
set_option maxRecDepth 20000 in
theorem gL_does_X5_group : GoodIn wsL_does (wsV RL 35 RX5 yX5_group wsX5_group) := goodIn_app (goodIn_of _ (by decide +kernel)) ggL_does_X5_group
set_option maxRecDepth 20000 in
theorem ggL_does_X5_cancel : GoodIn wsL_does wsX5_cancel := goodIn_ca (goodIn_ca (goodIn_r _ [217, 27, 28, 29, 30, 91, 92, 93, 11, 94, 79, 95, 260, 261, 262, 263, 264, 239, 240, 241, 242, 243, 244, 245, 246, 247, 248, 249, 250, 251, 252] (by decide +kernel) (by decide +kernel)) (goodIn_sub (fun _ h => List.mem_cons_of_mem _ (List.mem_append_left _ (List.mem_append_right _ h))) (by decide +kernel))) (goodIn_sub (fun _ h => List.mem_cons_of_mem _ (List.mem_append_right _ h)) (by decide +kernel))
set_option maxRecDepth 20000 in
theorem gL_does_X5_cancel : GoodIn wsL_does (wsV RL 39 RX5 yX5_cancel wsX5_cancel) := goodIn_app (goodIn_of _ (by decide +kernel)) ggL_does_X5_cancel
set_option maxRecDepth 20000 in
theorem ggL_does_X5_endDay : GoodIn wsL_does wsX5_endDay := goodIn_ca (goodIn_r _ [221, 13, 14, 222, 79, 15, 16, 11, 17, 223, 224, 225, 226, 175, 162, 163, 164, 87, 88, 89, 90, 91, 92, 93, 94, 95, 96, 82, 97, 98, 99, 100, 101, 102, 107, 108, 109, 110, 22, 227, 228, 229, 230, 231, 232, 233, 234, 35, 43, 235, 34, 236, 237, 52, 238, 180, 181, 50, 53, 51, 239, 240, 241, 242, 243, 244, 245, 246, 247, 248, 249, 250, 251, 252, 260, 261, 262, 263, 264, 253, 254, 255, 256, 257, 258, 259] (by decide +kernel) (by decide +kernel)) (goodIn_sub (fun _ h => List.mem_cons_of_mem _ (List.mem_append_left _ (List.mem_append_left _ (List.mem_append_right _ h)))) (by decide +kernel))
set_option maxRecDepth 20000 in
theorem gL_does_X5_endDay : GoodIn wsL_does (wsV RL 42 RX5 yX5_endDay wsX5_endDay) := goodIn_app (goodIn_of _ (by decide +kernel)) ggL_does_X5_endDay
theorem dL_does_0 : decode cL_does 0 = .ok (.iload_n 1, 1) := by decide +kernel
theorem dL_does_1 : decode cL_does 1 = .ok (.ifCond .ne 14, 3) := by decide +kernel
theorem dL_does_4 : decode cL_does 4 = .ok (.aload_n 0, 1) := by decide +kernel
theorem dL_does_5 : decode cL_does 5 = .ok (.iload_n 2, 1) := by decide +kernel
theorem dL_does_6 : decode cL_does 6 = .ok (.iload_n 3, 1) := by decide +kernel
theorem dL_does_7 : decode cL_does 7 = .ok (.iload 4, 2) := by decide +kernel
theorem dL_does_9 : decode cL_does 9 = .ok (.invokestatic 14, 3) := by decide +kernel
theorem dL_does_12 : decode cL_does 12 = .ok (.goto 96, 3) := by decide +kernel
theorem dL_does_15 : decode cL_does 15 = .ok (.iload_n 1, 1) := by decide +kernel
theorem dL_does_16 : decode cL_does 16 = .ok (.iconst 1, 1) := by decide +kernel
theorem dL_does_17 : decode cL_does 17 = .ok (.if_icmp .ne 14, 3) := by decide +kernel
theorem dL_does_20 : decode cL_does 20 = .ok (.aload_n 0, 1) := by decide +kernel
theorem dL_does_21 : decode cL_does 21 = .ok (.iload_n 2, 1) := by decide +kernel
theorem dL_does_22 : decode cL_does 22 = .ok (.iload_n 3, 1) := by decide +kernel
theorem dL_does_23 : decode cL_does 23 = .ok (.iload 4, 2) := by decide +kernel
theorem dL_does_25 : decode cL_does 25 = .ok (.invokevirtual 20, 3) := by decide +kernel
theorem dL_does_28 : decode cL_does 28 = .ok (.goto 80, 3) := by decide +kernel
theorem dL_does_31 : decode cL_does 31 = .ok (.iload_n 1, 1) := by decide +kernel
theorem dL_does_32 : decode cL_does 32 = .ok (.iconst 2, 1) := by decide +kernel
theorem dL_does_33 : decode cL_does 33 = .ok (.if_icmp .ne 12, 3) := by decide +kernel
theorem dL_does_36 : decode cL_does 36 = .ok (.aload_n 0, 1) := by decide +kernel
theorem dL_does_37 : decode cL_does 37 = .ok (.iload_n 2, 1) := by decide +kernel
theorem dL_does_38 : decode cL_does 38 = .ok (.iload_n 3, 1) := by decide +kernel
theorem dL_does_39 : decode cL_does 39 = .ok (.invokevirtual 24, 3) := by decide +kernel
theorem dL_does_42 : decode cL_does 42 = .ok (.goto 66, 3) := by decide +kernel
theorem dL_does_45 : decode cL_does 45 = .ok (.iload_n 1, 1) := by decide +kernel
theorem dL_does_46 : decode cL_does 46 = .ok (.iconst 3, 1) := by decide +kernel
theorem dL_does_47 : decode cL_does 47 = .ok (.if_icmp .ne 11, 3) := by decide +kernel
theorem dL_does_50 : decode cL_does 50 = .ok (.aload_n 0, 1) := by decide +kernel
theorem dL_does_51 : decode cL_does 51 = .ok (.iload_n 2, 1) := by decide +kernel
theorem dL_does_52 : decode cL_does 52 = .ok (.invokevirtual 28, 3) := by decide +kernel
theorem dL_does_55 : decode cL_does 55 = .ok (.goto 53, 3) := by decide +kernel
theorem dL_does_58 : decode cL_does 58 = .ok (.iload_n 1, 1) := by decide +kernel
theorem dL_does_59 : decode cL_does 59 = .ok (.iconst 4, 1) := by decide +kernel
theorem dL_does_60 : decode cL_does 60 = .ok (.if_icmp .ne 11, 3) := by decide +kernel
theorem dL_does_63 : decode cL_does 63 = .ok (.aload_n 0, 1) := by decide +kernel
theorem dL_does_64 : decode cL_does 64 = .ok (.iload_n 2, 1) := by decide +kernel
theorem dL_does_65 : decode cL_does 65 = .ok (.invokevirtual 32, 3) := by decide +kernel
theorem dL_does_68 : decode cL_does 68 = .ok (.goto 40, 3) := by decide +kernel
theorem dL_does_71 : decode cL_does 71 = .ok (.iload_n 1, 1) := by decide +kernel
theorem dL_does_72 : decode cL_does 72 = .ok (.iconst 5, 1) := by decide +kernel
theorem dL_does_73 : decode cL_does 73 = .ok (.if_icmp .ne 16, 3) := by decide +kernel
theorem dL_does_76 : decode cL_does 76 = .ok (.aload_n 0, 1) := by decide +kernel
theorem dL_does_77 : decode cL_does 77 = .ok (.iload_n 2, 1) := by decide +kernel
theorem dL_does_78 : decode cL_does 78 = .ok (.iload_n 3, 1) := by decide +kernel
theorem dL_does_79 : decode cL_does 79 = .ok (.iload 4, 2) := by decide +kernel
theorem dL_does_81 : decode cL_does 81 = .ok (.iload 5, 2) := by decide +kernel
theorem dL_does_83 : decode cL_does 83 = .ok (.invokevirtual 35, 3) := by decide +kernel
theorem dL_does_86 : decode cL_does 86 = .ok (.goto 22, 3) := by decide +kernel
theorem dL_does_89 : decode cL_does 89 = .ok (.iload_n 1, 1) := by decide +kernel
theorem dL_does_90 : decode cL_does 90 = .ok (.bipush 6, 2) := by decide +kernel
theorem dL_does_92 : decode cL_does 92 = .ok (.if_icmp .ne 11, 3) := by decide +kernel
theorem dL_does_95 : decode cL_does 95 = .ok (.aload_n 0, 1) := by decide +kernel
theorem dL_does_96 : decode cL_does 96 = .ok (.iload_n 2, 1) := by decide +kernel
theorem dL_does_97 : decode cL_does 97 = .ok (.invokevirtual 39, 3) := by decide +kernel
theorem dL_does_100 : decode cL_does 100 = .ok (.goto 8, 3) := by decide +kernel
theorem dL_does_103 : decode cL_does 103 = .ok (.aload_n 0, 1) := by decide +kernel
theorem dL_does_104 : decode cL_does 104 = .ok (.iload_n 2, 1) := by decide +kernel
theorem dL_does_105 : decode cL_does 105 = .ok (.invokevirtual 42, 3) := by decide +kernel
theorem dL_does_108 : decode cL_does 108 = .ok (.ireturn, 1) := by decide +kernel
theorem dL_does_109 : decode cL_does 109 = .ok (.astore 6, 2) := by decide +kernel
theorem dL_does_111 : decode cL_does 111 = .ok (.bipush (-30), 2) := by decide +kernel
theorem dL_does_113 : decode cL_does 113 = .ok (.ireturn, 1) := by decide +kernel
theorem dL_does_114 : decode cL_does 114 = .ok (.astore 6, 2) := by decide +kernel
theorem dL_does_116 : decode cL_does 116 = .ok (.bipush (-20), 2) := by decide +kernel
theorem dL_does_118 : decode cL_does 118 = .ok (.ireturn, 1) := by decide +kernel
theorem dL_does_119 : decode cL_does 119 = .ok (.astore 6, 2) := by decide +kernel
theorem dL_does_121 : decode cL_does 121 = .ok (.bipush (-10), 2) := by decide +kernel
theorem dL_does_123 : decode cL_does 123 = .ok (.ireturn, 1) := by decide +kernel
set_option maxRecDepth 20000 in
theorem ggL_asks_X5_booked : GoodIn wsL_asks wsX5_booked := goodIn_ca (goodIn_r _ [7, 8, 9, 10, 11, 6, 12, 13, 14, 15, 16, 17, 18, 19, 20, 21, 22, 23, 24, 25, 26, 27, 28, 29, 30, 31, 32, 33, 175, 176, 177, 178, 179, 180, 181, 182, 183, 184, 185, 186, 187, 188, 189, 190, 191, 192, 193] (by decide +kernel) (by decide +kernel)) (goodIn_sub (fun _ h => List.mem_cons_of_mem _ (List.mem_append_left _ (List.mem_append_right _ h))) (by decide +kernel))
set_option maxRecDepth 20000 in
theorem gL_asks_X5_booked : GoodIn wsL_asks (wsV RL 51 RX5 yX5_booked wsX5_booked) := goodIn_app (goodIn_of _ (by decide +kernel)) ggL_asks_X5_booked
set_option maxRecDepth 20000 in
theorem ggL_asks_X5_authorised : GoodIn wsL_asks wsX5_authorised := goodIn_ca (goodIn_r _ [37, 8, 9, 10, 11, 6, 12, 13, 14, 15, 38, 39, 40, 41, 42, 43, 44, 45, 46, 47, 175, 176, 177, 178, 179, 180, 181, 182, 183, 184, 185, 186, 187, 188] (by decide +kernel) (by decide +kernel)) (goodIn_sub (fun _ h => List.mem_cons_of_mem _ (List.mem_append_left _ (List.mem_append_right _ h))) (by decide +kernel))
set_option maxRecDepth 20000 in
theorem gL_asks_X5_authorised : GoodIn wsL_asks (wsV RL 54 RX5 yX5_authorised wsX5_authorised) := goodIn_app (goodIn_of _ (by decide +kernel)) ggL_asks_X5_authorised
set_option maxRecDepth 20000 in
theorem ggL_asks_X5_protectedSeats : GoodIn wsL_asks wsX5_protectedSeats := goodIn_ca (goodIn_ca (goodIn_r _ [51, 8, 9, 52, 53, 10, 11, 6, 12, 13, 14, 15, 54, 55, 56, 57, 58, 59, 60, 61, 62, 63, 64, 65, 66, 67, 68, 69, 70, 175, 176, 177, 178, 179, 180, 181, 182, 183, 184, 185, 186, 187, 188, 194, 195, 196, 197, 198, 199, 200] (by decide +kernel) (by decide +kernel)) (goodIn_sub (fun _ h => List.mem_cons_of_mem _ (List.mem_append_left _ (List.mem_append_right _ h))) (by decide +kernel))) (goodIn_sub (fun _ h => List.mem_cons_of_mem _ (List.mem_append_right _ h)) (by decide +kernel))
set_option maxRecDepth 20000 in
theorem gL_asks_X5_protectedSeats : GoodIn wsL_asks (wsV RL 57 RX5 yX5_protectedSeats wsX5_protectedSeats) := goodIn_app (goodIn_of _ (by decide +kernel)) ggL_asks_X5_protectedSeats
set_option maxRecDepth 20000 in
theorem ggL_asks_X5_bid : GoodIn wsL_asks wsX5_bid := goodIn_ca (goodIn_r _ [74, 8, 9, 10, 11, 6, 12, 13, 14, 15, 75, 76, 77, 78, 79, 80, 81, 82, 83, 84, 85, 86, 87, 88, 89, 90, 91, 92, 93, 94, 95, 96, 97, 98, 99, 100, 101, 102, 61, 103, 104, 105, 106, 107, 108, 109, 110, 111, 112, 113, 114, 115, 116, 117, 118, 119, 120, 121, 43, 44, 45, 46, 47, 16, 17, 18, 19, 20, 21, 22, 23, 24, 25, 26, 27, 28, 29, 30, 31, 32, 33, 122, 123, 124, 125, 126, 127, 128, 129, 130, 131, 132, 133, 134, 135, 136, 137, 138, 139, 175, 176, 177, 178, 179, 180, 181, 182, 183, 184, 185, 186, 187, 188, 201, 202, 203, 204, 205, 206, 207, 208, 194, 195, 196, 197, 198, 199, 200, 189, 190, 191, 192, 193] (by decide +kernel) (by decide +kernel)) (goodIn_sub (fun _ h => List.mem_cons_of_mem _ (List.mem_append_left _ (List.mem_append_right _ h))) (by decide +kernel))
set_option maxRecDepth 20000 in
theorem gL_asks_X5_bid : GoodIn wsL_asks (wsV RL 60 RX5 yX5_bid wsX5_bid) := goodIn_app (goodIn_of _ (by decide +kernel)) ggL_asks_X5_bid
set_option maxRecDepth 20000 in
theorem ggL_asks_X5_displaced : GoodIn wsL_asks wsX5_displaced := goodIn_ca (goodIn_ca (goodIn_r _ [143, 8, 9, 52, 53, 10, 11, 6, 12, 13, 14, 15, 144, 145, 146, 147, 117, 118, 119, 120, 121, 108, 109, 110, 43, 44, 45, 46, 47, 16, 17, 18, 19, 20, 21, 22, 23, 24, 25, 26, 27, 28, 29, 30, 31, 32, 33, 148, 149, 150, 151, 79, 80, 81, 82, 83, 84, 85, 86, 87, 88, 89, 90, 91, 92, 93, 94, 95, 96, 97, 98, 99, 100, 101, 102, 61, 103, 104, 105, 106, 107, 111, 112, 113, 114, 115, 116, 122, 123, 124, 125, 126, 127, 128, 129, 130, 131, 132, 133, 134, 135, 136, 137, 138, 139, 175, 176, 177, 178, 179, 180, 181, 182, 183, 184, 185, 186, 187, 188, 189, 190, 191, 192, 193, 201, 202, 203, 204, 205, 206, 207, 208, 194, 195, 196, 197, 198, 199, 200] (by decide +kernel) (by decide +kernel)) (goodIn_sub (fun _ h => List.mem_cons_of_mem _ (List.mem_append_left _ (List.mem_append_right _ h))) (by decide +kernel))) (goodIn_sub (fun _ h => List.mem_cons_of_mem _ (List.mem_append_right _ h)) (by decide +kernel))
set_option maxRecDepth 20000 in
theorem gL_asks_X5_displaced : GoodIn wsL_asks (wsV RL 63 RX5 yX5_displaced wsX5_displaced) := goodIn_app (goodIn_of _ (by decide +kernel)) ggL_asks_X5_displaced
set_option maxRecDepth 20000 in
theorem ggL_asks_X5_expected : GoodIn wsL_asks wsX5_expected := goodIn_ca (goodIn_r _ [155, 8, 9, 156, 157, 158, 6, 159, 58, 194, 195, 196, 197, 198, 199, 200, 175, 176, 177, 178, 179, 180, 181, 182, 183, 184, 185, 186, 187, 188] (by decide +kernel) (by decide +kernel)) (goodIn_sub (fun _ h => List.mem_cons_of_mem _ (List.mem_append_left _ (List.mem_append_right _ h))) (by decide +kernel))
set_option maxRecDepth 20000 in
theorem gL_asks_X5_expected : GoodIn wsL_asks (wsV RL 66 RX5 yX5_expected wsX5_expected) := goodIn_app (goodIn_of _ (by decide +kernel)) ggL_asks_X5_expected
set_option maxRecDepth 20000 in
theorem ggL_asks_X5_asked : GoodIn wsL_asks wsX5_asked := goodIn_ca (goodIn_r _ [163, 8, 9, 156, 157, 158, 6, 159, 58, 194, 195, 196, 197, 198, 199, 200, 175, 176, 177, 178, 179, 180, 181, 182, 183, 184, 185, 186, 187, 188] (by decide +kernel) (by decide +kernel)) (goodIn_sub (fun _ h => List.mem_cons_of_mem _ (List.mem_append_left _ (List.mem_append_right _ h))) (by decide +kernel))
set_option maxRecDepth 20000 in
theorem gL_asks_X5_asked : GoodIn wsL_asks (wsV RL 69 RX5 yX5_asked wsX5_asked) := goodIn_app (goodIn_of _ (by decide +kernel)) ggL_asks_X5_asked
set_option maxRecDepth 20000 in
theorem ggL_asks_X5_refused : GoodIn wsL_asks wsX5_refused := goodIn_ca (goodIn_r _ [167, 52, 53, 168, 169, 170, 175, 176, 177, 178, 179, 180, 181, 182, 183, 184, 185, 186, 187, 188] (by decide +kernel) (by decide +kernel)) (goodIn_sub (fun _ h => List.mem_cons_of_mem _ (List.mem_append_right _ h)) (by decide +kernel))
set_option maxRecDepth 20000 in
theorem gL_asks_X5_refused : GoodIn wsL_asks (wsV RL 72 RX5 yX5_refused wsX5_refused) := goodIn_app (goodIn_of _ (by decide +kernel)) ggL_asks_X5_refused
set_option maxRecDepth 20000 in
theorem ggL_asks_X5_average : GoodIn wsL_asks wsX5_average := goodIn_ca (goodIn_r _ [174, 8, 9, 59, 156, 157, 158, 6, 159, 58, 175, 176, 177, 178, 179, 180, 181, 182, 183, 184, 185, 186, 187, 188, 194, 195, 196, 197, 198, 199, 200] (by decide +kernel) (by decide +kernel)) (goodIn_sub (fun _ h => List.mem_cons_of_mem _ (List.mem_append_left _ (List.mem_append_right _ h))) (by decide +kernel))
set_option maxRecDepth 20000 in
theorem gL_asks_X5_average : GoodIn wsL_asks (wsV RL 75 RX5 yX5_average wsX5_average) := goodIn_app (goodIn_of _ (by decide +kernel)) ggL_asks_X5_average
theorem dL_asks_0 : decode cL_asks 0 = .ok (.iload_n 1, 1) := by decide +kernel
theorem dL_asks_1 : decode cL_asks 1 = .ok (.ifCond .ne 11, 3) := by decide +kernel
theorem dL_asks_4 : decode cL_asks 4 = .ok (.aload_n 0, 1) := by decide +kernel
theorem dL_asks_5 : decode cL_asks 5 = .ok (.iload_n 2, 1) := by decide +kernel
theorem dL_asks_6 : decode cL_asks 6 = .ok (.invokevirtual 51, 3) := by decide +kernel
theorem dL_asks_9 : decode cL_asks 9 = .ok (.goto 115, 3) := by decide +kernel
theorem dL_asks_12 : decode cL_asks 12 = .ok (.iload_n 1, 1) := by decide +kernel
theorem dL_asks_13 : decode cL_asks 13 = .ok (.iconst 1, 1) := by decide +kernel
theorem dL_asks_14 : decode cL_asks 14 = .ok (.if_icmp .ne 11, 3) := by decide +kernel
theorem dL_asks_17 : decode cL_asks 17 = .ok (.aload_n 0, 1) := by decide +kernel
theorem dL_asks_18 : decode cL_asks 18 = .ok (.iload_n 2, 1) := by decide +kernel
theorem dL_asks_19 : decode cL_asks 19 = .ok (.invokevirtual 54, 3) := by decide +kernel
theorem dL_asks_22 : decode cL_asks 22 = .ok (.goto 102, 3) := by decide +kernel
theorem dL_asks_25 : decode cL_asks 25 = .ok (.iload_n 1, 1) := by decide +kernel
theorem dL_asks_26 : decode cL_asks 26 = .ok (.iconst 2, 1) := by decide +kernel
theorem dL_asks_27 : decode cL_asks 27 = .ok (.if_icmp .ne 12, 3) := by decide +kernel
theorem dL_asks_30 : decode cL_asks 30 = .ok (.aload_n 0, 1) := by decide +kernel
theorem dL_asks_31 : decode cL_asks 31 = .ok (.iload_n 2, 1) := by decide +kernel
theorem dL_asks_32 : decode cL_asks 32 = .ok (.iload_n 3, 1) := by decide +kernel
theorem dL_asks_33 : decode cL_asks 33 = .ok (.invokevirtual 57, 3) := by decide +kernel
theorem dL_asks_36 : decode cL_asks 36 = .ok (.goto 88, 3) := by decide +kernel
theorem dL_asks_39 : decode cL_asks 39 = .ok (.iload_n 1, 1) := by decide +kernel
theorem dL_asks_40 : decode cL_asks 40 = .ok (.iconst 3, 1) := by decide +kernel
theorem dL_asks_41 : decode cL_asks 41 = .ok (.if_icmp .ne 11, 3) := by decide +kernel
theorem dL_asks_44 : decode cL_asks 44 = .ok (.aload_n 0, 1) := by decide +kernel
theorem dL_asks_45 : decode cL_asks 45 = .ok (.iload_n 2, 1) := by decide +kernel
theorem dL_asks_46 : decode cL_asks 46 = .ok (.invokevirtual 60, 3) := by decide +kernel
theorem dL_asks_49 : decode cL_asks 49 = .ok (.goto 75, 3) := by decide +kernel
theorem dL_asks_52 : decode cL_asks 52 = .ok (.iload_n 1, 1) := by decide +kernel
theorem dL_asks_53 : decode cL_asks 53 = .ok (.iconst 4, 1) := by decide +kernel
theorem dL_asks_54 : decode cL_asks 54 = .ok (.if_icmp .ne 14, 3) := by decide +kernel
theorem dL_asks_57 : decode cL_asks 57 = .ok (.aload_n 0, 1) := by decide +kernel
theorem dL_asks_58 : decode cL_asks 58 = .ok (.iload_n 2, 1) := by decide +kernel
theorem dL_asks_59 : decode cL_asks 59 = .ok (.iload_n 3, 1) := by decide +kernel
theorem dL_asks_60 : decode cL_asks 60 = .ok (.iload 4, 2) := by decide +kernel
theorem dL_asks_62 : decode cL_asks 62 = .ok (.invokevirtual 63, 3) := by decide +kernel
theorem dL_asks_65 : decode cL_asks 65 = .ok (.goto 59, 3) := by decide +kernel
theorem dL_asks_68 : decode cL_asks 68 = .ok (.iload_n 1, 1) := by decide +kernel
theorem dL_asks_69 : decode cL_asks 69 = .ok (.iconst 5, 1) := by decide +kernel
theorem dL_asks_70 : decode cL_asks 70 = .ok (.if_icmp .ne 11, 3) := by decide +kernel
theorem dL_asks_73 : decode cL_asks 73 = .ok (.aload_n 0, 1) := by decide +kernel
theorem dL_asks_74 : decode cL_asks 74 = .ok (.iload_n 2, 1) := by decide +kernel
theorem dL_asks_75 : decode cL_asks 75 = .ok (.invokevirtual 66, 3) := by decide +kernel
theorem dL_asks_78 : decode cL_asks 78 = .ok (.goto 46, 3) := by decide +kernel
theorem dL_asks_81 : decode cL_asks 81 = .ok (.iload_n 1, 1) := by decide +kernel
theorem dL_asks_82 : decode cL_asks 82 = .ok (.bipush 6, 2) := by decide +kernel
theorem dL_asks_84 : decode cL_asks 84 = .ok (.if_icmp .ne 11, 3) := by decide +kernel
theorem dL_asks_87 : decode cL_asks 87 = .ok (.aload_n 0, 1) := by decide +kernel
theorem dL_asks_88 : decode cL_asks 88 = .ok (.iload_n 2, 1) := by decide +kernel
theorem dL_asks_89 : decode cL_asks 89 = .ok (.invokevirtual 69, 3) := by decide +kernel
theorem dL_asks_92 : decode cL_asks 92 = .ok (.goto 32, 3) := by decide +kernel
theorem dL_asks_95 : decode cL_asks 95 = .ok (.iload_n 1, 1) := by decide +kernel
theorem dL_asks_96 : decode cL_asks 96 = .ok (.bipush 7, 2) := by decide +kernel
theorem dL_asks_98 : decode cL_asks 98 = .ok (.if_icmp .ne 11, 3) := by decide +kernel
theorem dL_asks_101 : decode cL_asks 101 = .ok (.aload_n 0, 1) := by decide +kernel
theorem dL_asks_102 : decode cL_asks 102 = .ok (.iload_n 2, 1) := by decide +kernel
theorem dL_asks_103 : decode cL_asks 103 = .ok (.invokevirtual 72, 3) := by decide +kernel
theorem dL_asks_106 : decode cL_asks 106 = .ok (.goto 18, 3) := by decide +kernel
theorem dL_asks_109 : decode cL_asks 109 = .ok (.aload_n 0, 1) := by decide +kernel
theorem dL_asks_110 : decode cL_asks 110 = .ok (.iload_n 2, 1) := by decide +kernel
theorem dL_asks_111 : decode cL_asks 111 = .ok (.invokevirtual 75, 3) := by decide +kernel
theorem dL_asks_114 : decode cL_asks 114 = .ok (.fconst 0, 1) := by decide +kernel
theorem dL_asks_115 : decode cL_asks 115 = .ok (.fcmp .l, 1) := by decide +kernel
theorem dL_asks_116 : decode cL_asks 116 = .ok (.ifCond .lt 7, 3) := by decide +kernel
theorem dL_asks_119 : decode cL_asks 119 = .ok (.iconst 1, 1) := by decide +kernel
theorem dL_asks_120 : decode cL_asks 120 = .ok (.goto 4, 3) := by decide +kernel
theorem dL_asks_123 : decode cL_asks 123 = .ok (.iconst 0, 1) := by decide +kernel
theorem dL_asks_124 : decode cL_asks 124 = .ok (.ireturn, 1) := by decide +kernel
theorem dL_asks_125 : decode cL_asks 125 = .ok (.astore 5, 2) := by decide +kernel
theorem dL_asks_127 : decode cL_asks 127 = .ok (.bipush (-30), 2) := by decide +kernel
theorem dL_asks_129 : decode cL_asks 129 = .ok (.ireturn, 1) := by decide +kernel
theorem dL_asks_130 : decode cL_asks 130 = .ok (.astore 5, 2) := by decide +kernel
theorem dL_asks_132 : decode cL_asks 132 = .ok (.bipush (-20), 2) := by decide +kernel
theorem dL_asks_134 : decode cL_asks 134 = .ok (.ireturn, 1) := by decide +kernel
theorem dL_booked_0 : decode cL_booked 0 = .ok (.iconst 0, 1) := by decide +kernel
theorem dL_booked_1 : decode cL_booked 1 = .ok (.istore_n 3, 1) := by decide +kernel
theorem dL_booked_2 : decode cL_booked 2 = .ok (.iconst 0, 1) := by decide +kernel
theorem dL_booked_3 : decode cL_booked 3 = .ok (.istore 4, 2) := by decide +kernel
theorem dL_booked_5 : decode cL_booked 5 = .ok (.iload 4, 2) := by decide +kernel
theorem dL_booked_7 : decode cL_booked 7 = .ok (.aload_n 1, 1) := by decide +kernel
theorem dL_booked_8 : decode cL_booked 8 = .ok (.bipush 6, 2) := by decide +kernel
theorem dL_booked_10 : decode cL_booked 10 = .ok (.iaload, 1) := by decide +kernel
theorem dL_booked_11 : decode cL_booked 11 = .ok (.if_icmp .ge 59, 3) := by decide +kernel
theorem dL_booked_14 : decode cL_booked 14 = .ok (.iload_n 3, 1) := by decide +kernel
theorem dL_booked_15 : decode cL_booked 15 = .ok (.aload_n 0, 1) := by decide +kernel
theorem dL_booked_16 : decode cL_booked 16 = .ok (.bipush 20, 2) := by decide +kernel
theorem dL_booked_18 : decode cL_booked 18 = .ok (.iload 4, 2) := by decide +kernel
theorem dL_booked_20 : decode cL_booked 20 = .ok (.iadd, 1) := by decide +kernel
theorem dL_booked_21 : decode cL_booked 21 = .ok (.iaload, 1) := by decide +kernel
theorem dL_booked_22 : decode cL_booked 22 = .ok (.ifCond .le 39, 3) := by decide +kernel
theorem dL_booked_25 : decode cL_booked 25 = .ok (.aload_n 0, 1) := by decide +kernel
theorem dL_booked_26 : decode cL_booked 26 = .ok (.iload 4, 2) := by decide +kernel
theorem dL_booked_28 : decode cL_booked 28 = .ok (.iaload, 1) := by decide +kernel
theorem dL_booked_29 : decode cL_booked 29 = .ok (.sipush 1000, 3) := by decide +kernel
theorem dL_booked_32 : decode cL_booked 32 = .ok (.idiv, 1) := by decide +kernel
theorem dL_booked_33 : decode cL_booked 33 = .ok (.iload_n 2, 1) := by decide +kernel
theorem dL_booked_34 : decode cL_booked 34 = .ok (.if_icmp .gt 27, 3) := by decide +kernel
theorem dL_booked_37 : decode cL_booked 37 = .ok (.aload_n 0, 1) := by decide +kernel
theorem dL_booked_38 : decode cL_booked 38 = .ok (.iload 4, 2) := by decide +kernel
theorem dL_booked_40 : decode cL_booked 40 = .ok (.iaload, 1) := by decide +kernel
theorem dL_booked_41 : decode cL_booked 41 = .ok (.bipush 100, 2) := by decide +kernel
theorem dL_booked_43 : decode cL_booked 43 = .ok (.idiv, 1) := by decide +kernel
theorem dL_booked_44 : decode cL_booked 44 = .ok (.bipush 10, 2) := by decide +kernel
theorem dL_booked_46 : decode cL_booked 46 = .ok (.irem, 1) := by decide +kernel
theorem dL_booked_47 : decode cL_booked 47 = .ok (.iload_n 2, 1) := by decide +kernel
theorem dL_booked_48 : decode cL_booked 48 = .ok (.if_icmp .lt 13, 3) := by decide +kernel
theorem dL_booked_51 : decode cL_booked 51 = .ok (.aload_n 0, 1) := by decide +kernel
theorem dL_booked_52 : decode cL_booked 52 = .ok (.iload 4, 2) := by decide +kernel
theorem dL_booked_54 : decode cL_booked 54 = .ok (.iaload, 1) := by decide +kernel
theorem dL_booked_55 : decode cL_booked 55 = .ok (.bipush 100, 2) := by decide +kernel
theorem dL_booked_57 : decode cL_booked 57 = .ok (.irem, 1) := by decide +kernel
theorem dL_booked_58 : decode cL_booked 58 = .ok (.goto 4, 3) := by decide +kernel
theorem dL_booked_61 : decode cL_booked 61 = .ok (.iconst 0, 1) := by decide +kernel
theorem dL_booked_62 : decode cL_booked 62 = .ok (.iadd, 1) := by decide +kernel
theorem dL_booked_63 : decode cL_booked 63 = .ok (.istore_n 3, 1) := by decide +kernel
theorem dL_booked_64 : decode cL_booked 64 = .ok (.iinc 4 1, 3) := by decide +kernel
theorem dL_booked_67 : decode cL_booked 67 = .ok (.goto (-62), 3) := by decide +kernel
theorem dL_booked_70 : decode cL_booked 70 = .ok (.iload_n 3, 1) := by decide +kernel
theorem dL_booked_71 : decode cL_booked 71 = .ok (.ireturn, 1) := by decide +kernel
theorem dL_authorised_0 : decode cL_authorised 0 = .ok (.aload_n 0, 1) := by decide +kernel
theorem dL_authorised_1 : decode cL_authorised 1 = .ok (.iload_n 1, 1) := by decide +kernel
theorem dL_authorised_2 : decode cL_authorised 2 = .ok (.iaload, 1) := by decide +kernel
theorem dL_authorised_3 : decode cL_authorised 3 = .ok (.aload_n 0, 1) := by decide +kernel
theorem dL_authorised_4 : decode cL_authorised 4 = .ok (.iload_n 1, 1) := by decide +kernel
theorem dL_authorised_5 : decode cL_authorised 5 = .ok (.iaload, 1) := by decide +kernel
theorem dL_authorised_6 : decode cL_authorised 6 = .ok (.bipush 100, 2) := by decide +kernel
theorem dL_authorised_8 : decode cL_authorised 8 = .ok (.aload_n 0, 1) := by decide +kernel
theorem dL_authorised_9 : decode cL_authorised 9 = .ok (.iconst 3, 1) := by decide +kernel
theorem dL_authorised_10 : decode cL_authorised 10 = .ok (.iaload, 1) := by decide +kernel
theorem dL_authorised_11 : decode cL_authorised 11 = .ok (.isub, 1) := by decide +kernel
theorem dL_authorised_12 : decode cL_authorised 12 = .ok (.imul, 1) := by decide +kernel
theorem dL_authorised_13 : decode cL_authorised 13 = .ok (.bipush 100, 2) := by decide +kernel
theorem dL_authorised_15 : decode cL_authorised 15 = .ok (.idiv, 1) := by decide +kernel
theorem dL_authorised_16 : decode cL_authorised 16 = .ok (.iadd, 1) := by decide +kernel
theorem dL_authorised_17 : decode cL_authorised 17 = .ok (.ireturn, 1) := by decide +kernel
theorem dL_guarded_0 : decode cL_guarded 0 = .ok (.iconst 0, 1) := by decide +kernel
theorem dL_guarded_1 : decode cL_guarded 1 = .ok (.istore 5, 2) := by decide +kernel
theorem dL_guarded_3 : decode cL_guarded 3 = .ok (.iconst 0, 1) := by decide +kernel
theorem dL_guarded_4 : decode cL_guarded 4 = .ok (.istore 6, 2) := by decide +kernel
theorem dL_guarded_6 : decode cL_guarded 6 = .ok (.iload 6, 2) := by decide +kernel
theorem dL_guarded_8 : decode cL_guarded 8 = .ok (.aload_n 2, 1) := by decide +kernel
theorem dL_guarded_9 : decode cL_guarded 9 = .ok (.iconst 4, 1) := by decide +kernel
theorem dL_guarded_10 : decode cL_guarded 10 = .ok (.iaload, 1) := by decide +kernel
theorem dL_guarded_11 : decode cL_guarded 11 = .ok (.if_icmp .ge 153, 3) := by decide +kernel
theorem dL_guarded_14 : decode cL_guarded 14 = .ok (.aload_n 2, 1) := by decide +kernel
theorem dL_guarded_15 : decode cL_guarded 15 = .ok (.iconst 5, 1) := by decide +kernel
theorem dL_guarded_16 : decode cL_guarded 16 = .ok (.iaload, 1) := by decide +kernel
theorem dL_guarded_17 : decode cL_guarded 17 = .ok (.ifCond .le 147, 3) := by decide +kernel
theorem dL_guarded_20 : decode cL_guarded 20 = .ok (.bipush 6, 2) := by decide +kernel
theorem dL_guarded_22 : decode cL_guarded 22 = .ok (.iload 6, 2) := by decide +kernel
theorem dL_guarded_24 : decode cL_guarded 24 = .ok (.imul, 1) := by decide +kernel
theorem dL_guarded_25 : decode cL_guarded 25 = .ok (.istore 7, 2) := by decide +kernel
theorem dL_guarded_27 : decode cL_guarded 27 = .ok (.iconst 0, 1) := by decide +kernel
theorem dL_guarded_28 : decode cL_guarded 28 = .ok (.istore 8, 2) := by decide +kernel
theorem dL_guarded_30 : decode cL_guarded 30 = .ok (.iconst 1, 1) := by decide +kernel
theorem dL_guarded_31 : decode cL_guarded 31 = .ok (.istore 9, 2) := by decide +kernel
theorem dL_guarded_33 : decode cL_guarded 33 = .ok (.iload 9, 2) := by decide +kernel
theorem dL_guarded_35 : decode cL_guarded 35 = .ok (.bipush 20, 2) := by decide +kernel
theorem dL_guarded_37 : decode cL_guarded 37 = .ok (.if_icmp .gt 81, 3) := by decide +kernel
theorem dL_guarded_40 : decode cL_guarded 40 = .ok (.iconst 0, 1) := by decide +kernel
theorem dL_guarded_41 : decode cL_guarded 41 = .ok (.istore 10, 2) := by decide +kernel
theorem dL_guarded_43 : decode cL_guarded 43 = .ok (.iconst 0, 1) := by decide +kernel
theorem dL_guarded_44 : decode cL_guarded 44 = .ok (.istore 11, 2) := by decide +kernel
theorem dL_guarded_46 : decode cL_guarded 46 = .ok (.iload 11, 2) := by decide +kernel
theorem dL_guarded_48 : decode cL_guarded 48 = .ok (.aload_n 2, 1) := by decide +kernel
theorem dL_guarded_49 : decode cL_guarded 49 = .ok (.iconst 5, 1) := by decide +kernel
theorem dL_guarded_50 : decode cL_guarded 50 = .ok (.iaload, 1) := by decide +kernel
theorem dL_guarded_51 : decode cL_guarded 51 = .ok (.if_icmp .ge 34, 3) := by decide +kernel
theorem dL_guarded_54 : decode cL_guarded 54 = .ok (.iload 10, 2) := by decide +kernel
theorem dL_guarded_56 : decode cL_guarded 56 = .ok (.aload_n 1, 1) := by decide +kernel
theorem dL_guarded_57 : decode cL_guarded 57 = .ok (.bipush 10, 2) := by decide +kernel
theorem dL_guarded_59 : decode cL_guarded 59 = .ok (.iload 6, 2) := by decide +kernel
theorem dL_guarded_61 : decode cL_guarded 61 = .ok (.imul, 1) := by decide +kernel
theorem dL_guarded_62 : decode cL_guarded 62 = .ok (.iload 11, 2) := by decide +kernel
theorem dL_guarded_64 : decode cL_guarded 64 = .ok (.iadd, 1) := by decide +kernel
theorem dL_guarded_65 : decode cL_guarded 65 = .ok (.iaload, 1) := by decide +kernel
theorem dL_guarded_66 : decode cL_guarded 66 = .ok (.iload 9, 2) := by decide +kernel
theorem dL_guarded_68 : decode cL_guarded 68 = .ok (.if_icmp .lt 7, 3) := by decide +kernel
theorem dL_guarded_71 : decode cL_guarded 71 = .ok (.iconst 1, 1) := by decide +kernel
theorem dL_guarded_72 : decode cL_guarded 72 = .ok (.goto 4, 3) := by decide +kernel
theorem dL_guarded_75 : decode cL_guarded 75 = .ok (.iconst 0, 1) := by decide +kernel
theorem dL_guarded_76 : decode cL_guarded 76 = .ok (.iadd, 1) := by decide +kernel
theorem dL_guarded_77 : decode cL_guarded 77 = .ok (.istore 10, 2) := by decide +kernel
theorem dL_guarded_79 : decode cL_guarded 79 = .ok (.iinc 11 1, 3) := by decide +kernel
theorem dL_guarded_82 : decode cL_guarded 82 = .ok (.goto (-36), 3) := by decide +kernel
theorem dL_guarded_85 : decode cL_guarded 85 = .ok (.aload_n 0, 1) := by decide +kernel
theorem dL_guarded_86 : decode cL_guarded 86 = .ok (.iload 7, 2) := by decide +kernel
theorem dL_guarded_88 : decode cL_guarded 88 = .ok (.iconst 2, 1) := by decide +kernel
theorem dL_guarded_89 : decode cL_guarded 89 = .ok (.iadd, 1) := by decide +kernel
theorem dL_guarded_90 : decode cL_guarded 90 = .ok (.iaload, 1) := by decide +kernel
theorem dL_guarded_91 : decode cL_guarded 91 = .ok (.iload 10, 2) := by decide +kernel
theorem dL_guarded_93 : decode cL_guarded 93 = .ok (.imul, 1) := by decide +kernel
theorem dL_guarded_94 : decode cL_guarded 94 = .ok (.iload 4, 2) := by decide +kernel
theorem dL_guarded_96 : decode cL_guarded 96 = .ok (.aload_n 2, 1) := by decide +kernel
theorem dL_guarded_97 : decode cL_guarded 97 = .ok (.iconst 5, 1) := by decide +kernel
theorem dL_guarded_98 : decode cL_guarded 98 = .ok (.iaload, 1) := by decide +kernel
theorem dL_guarded_99 : decode cL_guarded 99 = .ok (.imul, 1) := by decide +kernel
theorem dL_guarded_100 : decode cL_guarded 100 = .ok (.if_icmp .lt 8, 3) := by decide +kernel
theorem dL_guarded_103 : decode cL_guarded 103 = .ok (.iload 9, 2) := by decide +kernel
theorem dL_guarded_105 : decode cL_guarded 105 = .ok (.goto 5, 3) := by decide +kernel
theorem dL_guarded_108 : decode cL_guarded 108 = .ok (.iload 8, 2) := by decide +kernel
theorem dL_guarded_110 : decode cL_guarded 110 = .ok (.istore 8, 2) := by decide +kernel
theorem dL_guarded_112 : decode cL_guarded 112 = .ok (.iinc 9 1, 3) := by decide +kernel
theorem dL_guarded_115 : decode cL_guarded 115 = .ok (.goto (-82), 3) := by decide +kernel
theorem dL_guarded_118 : decode cL_guarded 118 = .ok (.iload 5, 2) := by decide +kernel
theorem dL_guarded_120 : decode cL_guarded 120 = .ok (.aload_n 0, 1) := by decide +kernel
theorem dL_guarded_121 : decode cL_guarded 121 = .ok (.iload 7, 2) := by decide +kernel
theorem dL_guarded_123 : decode cL_guarded 123 = .ok (.iaload, 1) := by decide +kernel
theorem dL_guarded_124 : decode cL_guarded 124 = .ok (.iload_n 3, 1) := by decide +kernel
theorem dL_guarded_125 : decode cL_guarded 125 = .ok (.if_icmp .gt 29, 3) := by decide +kernel
theorem dL_guarded_128 : decode cL_guarded 128 = .ok (.aload_n 0, 1) := by decide +kernel
theorem dL_guarded_129 : decode cL_guarded 129 = .ok (.iload 7, 2) := by decide +kernel
theorem dL_guarded_131 : decode cL_guarded 131 = .ok (.iconst 1, 1) := by decide +kernel
theorem dL_guarded_132 : decode cL_guarded 132 = .ok (.iadd, 1) := by decide +kernel
theorem dL_guarded_133 : decode cL_guarded 133 = .ok (.iaload, 1) := by decide +kernel
theorem dL_guarded_134 : decode cL_guarded 134 = .ok (.iload_n 3, 1) := by decide +kernel
theorem dL_guarded_135 : decode cL_guarded 135 = .ok (.if_icmp .lt 19, 3) := by decide +kernel
theorem dL_guarded_138 : decode cL_guarded 138 = .ok (.aload_n 0, 1) := by decide +kernel
theorem dL_guarded_139 : decode cL_guarded 139 = .ok (.iload 7, 2) := by decide +kernel
theorem dL_guarded_141 : decode cL_guarded 141 = .ok (.iconst 2, 1) := by decide +kernel
theorem dL_guarded_142 : decode cL_guarded 142 = .ok (.iadd, 1) := by decide +kernel
theorem dL_guarded_143 : decode cL_guarded 143 = .ok (.iaload, 1) := by decide +kernel
theorem dL_guarded_144 : decode cL_guarded 144 = .ok (.iload 4, 2) := by decide +kernel
theorem dL_guarded_146 : decode cL_guarded 146 = .ok (.if_icmp .le 8, 3) := by decide +kernel
theorem dL_guarded_149 : decode cL_guarded 149 = .ok (.iload 8, 2) := by decide +kernel
theorem dL_guarded_151 : decode cL_guarded 151 = .ok (.goto 4, 3) := by decide +kernel
theorem dL_guarded_154 : decode cL_guarded 154 = .ok (.iconst 0, 1) := by decide +kernel
theorem dL_guarded_155 : decode cL_guarded 155 = .ok (.iadd, 1) := by decide +kernel
theorem dL_guarded_156 : decode cL_guarded 156 = .ok (.istore 5, 2) := by decide +kernel
theorem dL_guarded_158 : decode cL_guarded 158 = .ok (.iinc 6 1, 3) := by decide +kernel
theorem dL_guarded_161 : decode cL_guarded 161 = .ok (.goto (-155), 3) := by decide +kernel
theorem dL_guarded_164 : decode cL_guarded 164 = .ok (.iload 5, 2) := by decide +kernel
theorem dL_guarded_166 : decode cL_guarded 166 = .ok (.ireturn, 1) := by decide +kernel
